import java.util.Arrays;

/** The boundary sentences of promises 4 to 6, and of sections 3 and 4 where they tell what a text's IMAGES are. */
public final class EdgeCodeTest {
    public static void main(String[] args) {
        Bench b = new Bench("EdgeCodeTest");
        howManyImages(b);
        inPlaceOfThoseBefore(b);
        thoseBeforeStay(b);
        faultOfTheLatest(b);
        faultOfOthers(b);
        byteOfAnImage(b);
        numbers(b);
        locals(b);
        jumpsFrom0(b);
        jumpsFarBack(b);
        jumpsFarAhead(b);
        ifs(b);
        whiles(b);
        tries(b);
        withoutResult(b);
        fittingTypes(b);
        choiceInFrames(b);
        framesTakePlaces(b);
        fullFrame(b);
        waitingOnTheStack(b);
        membersNamed(b);
        wantedFirst(b);
        textsAfterTexts(b);
        manyTexts(b);
        b.end();
    }

    private static Made made(Bench b, String text, int k) {
        ClassMill x = new ClassMill();
        Bench.compile(x, text);
        b.due("FAULT of " + text + " at " + x.fault(1), x.fault(0), 0);
        return new Made(Bench.image(text, k));
    }

    private static void same(Bench b, String what, int[] got, int... want) {
        b.due(what + ": " + Arrays.toString(got) + " / " + Arrays.toString(want), Arrays.equals(got, want), true);
    }

    /** The CODE of the last method of the first class. */
    private static void code(Bench b, String text, int... want) {
        b.right(text, text.split("class ").length - 1);
        Made made = made(b, text, 0);
        same(b, "CODE of " + text, made.methods.get(made.methods.size() - 1).code, want);
    }

    private static Made.Method method(Bench b, String text, int k, int m) {
        return made(b, text, k).methods.get(m);
    }

    /** "how many IMAGES it gives": one a class. */
    private static void howManyImages(Bench b) {
        StringBuilder row = new StringBuilder();
        for (int k = 1; k <= 8; k++) {
            row.append("class K").append(k).append("{}");
            ClassMill x = new ClassMill();
            b.due("compile of " + k, Bench.compile(x, row.toString()), k);
            b.due("the last", x.image(k - 1, -1) > 0, true);
            b.due("one more", x.image(k, -1), -1);
            b.due("the name of the last", x.image(k - 1, 6), '0' + k);
        }
    }

    /** "in place of those before": be they fewer or more. */
    private static void inPlaceOfThoseBefore(Bench b) {
        ClassMill x = new ClassMill();
        b.due("three", Bench.compile(x, "class A{}class B{}class C{}"), 3);
        b.due("one", Bench.compile(x, "class D{}"), 1);
        b.due("image(0, 5)", x.image(0, 5), 'D');
        b.due("image(1, -1)", x.image(1, -1), -1);
        b.due("image(1, 0)", x.image(1, 0), -1);
        b.due("image(2, -1)", x.image(2, -1), -1);
        b.due("keep(1)", x.keep(1), -1);
        b.due("keep(2)", x.keep(2), -1);
        b.due("keep(0)", x.keep(0), 8);
        b.due("two", Bench.compile(x, "class E{}class F{}"), 2);
        b.due("image(1, 5)", x.image(1, 5), 'F');
        b.due("what was kept stays", x.type(8, 3), 22);
        b.due("keep(1)", x.keep(1), 9);
    }

    /** "NONE with a FAULT (those before stay)" */
    private static void thoseBeforeStay(Bench b) {
        String[] wrong = {"", "#", "class A{", "class A{}class A{}", "class A{}class B{int x;int x;}", "class A{}class B{void m(){x=1;}}",
            "class A{int m(){}}", "class Q{}class R{}class S{}class T{void m(){" + "try{}catch(Fault e){}".repeat(21) + "}}", " ".repeat(3001)};
        for (String text : wrong) {
            ClassMill x = new ClassMill();
            b.due("compile", Bench.compile(x, "class X{int a;}class Y{}"), 2);
            b.due("size", x.image(0, -1), 30);
            b.due("compile of " + text, Bench.compile(x, text), -1);
            b.due("images stay", x.image(0, -1), 30);
            b.due("images stay", x.image(0, 5), 'X');
            b.due("images stay", x.image(1, 5), 'Y');
            b.due("no more", x.image(2, -1), -1);
            b.due("keep(1)", x.keep(1), 8);
            b.due("keep(0)", x.keep(0), 9);
            b.due("keep(2)", x.keep(2), -1);
            b.due("verify", x.verify(), 0);
        }
        ClassMill y = new ClassMill();
        b.due("a FAULT at first", Bench.compile(y, "class A{}class B{int}"), -1);
        b.due("no images", y.image(0, -1), -1);
        b.due("none to keep", y.keep(0), -1);
    }

    /** "Of the latest compile(): its FAULT (what 0; 0 without one, or before any), its PLACE (1; NONE without)." */
    private static void faultOfTheLatest(Bench b) {
        ClassMill x = new ClassMill();
        b.due("before any", x.fault(0) * 10 + x.fault(1), -1);
        Bench.compile(x, "class A{");
        b.due("with one", x.fault(0) * 10 + x.fault(1), 28);
        Bench.compile(x, "class A{}");
        b.due("without", x.fault(0) * 10 + x.fault(1), -1);
        Bench.compile(x, "#");
        b.due("at 0", x.fault(0) * 10 + x.fault(1), 10);
        Bench.compile(x, " ".repeat(3001));
        b.due("too long", x.fault(0) * 10000 + x.fault(1), 13000);
        x.keep(0);
        x.verify();
        x.load();
        x.clear();
        b.due("others leave it", x.fault(0) * 10000 + x.fault(1), 13000);
        b.due("asked again", x.fault(0) * 10000 + x.fault(1), 13000);
        Bench.compile(x, "class A{}");
        b.due("without", x.fault(0) * 10 + x.fault(1), -1);
    }

    /** "NONE for another what." */
    private static void faultOfOthers(Bench b) {
        int[] others = {-1, 2, 3, 10, Integer.MAX_VALUE, Integer.MIN_VALUE};
        ClassMill x = new ClassMill();
        for (int what : others) {
            b.due("before any: fault(" + what + ")", x.fault(what), -1);
        }
        Bench.compile(x, "class A{");
        for (int what : others) {
            b.due("with one: fault(" + what + ")", x.fault(what), -1);
        }
        Bench.compile(x, "class A{}");
        for (int what : others) {
            b.due("without: fault(" + what + ")", x.fault(what), -1);
        }
    }

    /** "Byte i of IMAGE k (from 0 on) ..; how many bytes (i NONE). NONE if there is none such." */
    private static void byteOfAnImage(Bench b) {
        ClassMill x = new ClassMill();
        Bench.compile(x, "class A{static void m(){while(true){}}}class B{}");
        int size = x.image(0, -1);
        b.due("the first", x.image(0, 0), 74);
        b.due("the last", x.image(0, size - 1), 0);
        b.due("above 127", x.image(0, size - 1 - 1 - 4 - 3), 167);
        b.due("one behind", x.image(0, size), -1);
        int[] places = {-2, -3, Integer.MIN_VALUE, Integer.MAX_VALUE, 6000, 65536};
        for (int i : places) {
            b.due("image(0, " + i + ")", x.image(0, i), -1);
        }
        int[] images = {-1, -2, 2, 3, 8, Integer.MIN_VALUE, Integer.MAX_VALUE};
        for (int k : images) {
            b.due("image(" + k + ", -1)", x.image(k, -1), -1);
            b.due("image(" + k + ", 0)", x.image(k, 0), -1);
        }
        b.due("the size of another", x.image(1, -1), 22);
        b.due("beyond another", x.image(1, 22), -1);
    }

    /** "a NUMBER up to 5: 3 more than it; up to 127: 16 it; else 18 i (INT)" */
    private static void numbers(Bench b) {
        code(b, "class A{static void m(int n){n=0;n=1;n=4;n=5;n=6;n=126;n=127;n=128;n=2147483647;n=-1;n=-5;n=-128;}}",
            3, 54, 0, 4, 54, 0, 7, 54, 0, 8, 54, 0, 16, 6, 54, 0, 16, 126, 54, 0, 16, 127, 54, 0, 18, 7, 54, 0, 18, 8, 54, 0,
            4, 116, 54, 0, 8, 116, 54, 0, 18, 7, 116, 54, 0, 177);
        Made made = made(b, "class A{static void m(int n){n=128;n=255;n=256;n=65536;n=16777216;n=2147483647;}}", 0);
        int[][] ints = {{2, 0, 0, 0, 128}, {2, 0, 0, 0, 255}, {2, 0, 0, 1, 0}, {2, 0, 1, 0, 0}, {2, 1, 0, 0, 0}, {2, 127, 255, 255, 255}};
        for (int i = 0; i < ints.length; i++) {
            same(b, "INT " + i, made.constants[7 + i], ints[i]);
        }
        code(b, "class A{static void m(boolean z,A a){z=true;z=false;a=null;}}", 4, 54, 0, 3, 54, 0, 1, 58, 1, 177);
    }

    /** "this (0, unless static), the parameters, then each variable has the place behind all that are in sight" */
    private static void locals(Bench b) {
        code(b, "class A{void m(int a,A c){A d=this;d=c;int e=a;}}", 25, 0, 58, 3, 25, 2, 58, 3, 21, 1, 54, 4, 177);
        code(b, "class A{static void m(int a,A c){A d=c;int e=a;}}", 25, 1, 58, 2, 21, 0, 54, 3, 177);
        code(b, "class A{static void m(){int a=0;{int c=1;{int d=2;}int e=3;}int f=4;if(true)int g=5;int h=0;}}",
            3, 54, 0, 4, 54, 1, 5, 54, 2, 6, 54, 2, 7, 54, 1, 4, 153, 0, 6, 8, 54, 2, 3, 54, 2, 177);
        b.due("none", method(b, "class A{static void m(){}}", 0, 0).locals, 0);
        b.due("this", method(b, "class A{void m(){}}", 0, 0).locals, 1);
        b.due("this and six", method(b, "class A{void m(int a,int b,int c,int d,int e,int f){}}", 0, 0).locals, 7);
        b.due("as many as there ever were", method(b, "class A{static void m(){{int a=1;int b=1;}{int c=1;}}}", 0, 0).locals, 2);
        b.due("that of catch", method(b, "class A{static void m(){try{}catch(Fault e){}}}", 0, 0).locals, 1);
        b.due("one is none of the next method's", method(b, "class A{static void m(int a){int c=a;}static void n(){}}", 0, 1).locals, 0);
    }

    /** A jump that is the first instruction, with its aim behind it and at it. */
    private static void jumpsFrom0(Bench b) {
        code(b, "class A{static void m(){while(true)break;}}", 167, 0, 3, 177);
        code(b, "class A{static void m(){while(true){}}}", 167, 0, 0);
        code(b, "class A{static void m(){while(true)continue;}}", 167, 0, 0);
        code(b, "class A{static void m(){while(true){while(true)break;}}}", 167, 0, 3, 167, 255, 253);
    }

    /** "how far its aim is from it (with sign)": back by more than 255, and by all of 1,500 bytes. */
    private static void jumpsFarBack(Bench b) {
        for (int many : new int[] {63, 64, 127, 128, 498}) {
            String text = "class A{static void m(int a){while(true)print(a" + "*a".repeat(many) + ");}}";
            b.right(text, 1);
            int[] code = method(b, text, 0, 0).code;
            int far = -(3 + 3 * many);
            b.due("LENGTH of " + many, code.length, 3 - far);
            b.due("back by " + far, (short) (code[code.length - 2] << 8 | code[code.length - 1]), far);
        }
    }

    private static void jumpsFarAhead(Bench b) {
        for (int many : new int[] {82, 83, 84, 85, 490}) {
            String text = "class A{static void m(int a,boolean z){if(z)print(a" + "*a".repeat(many) + ");}}";
            b.right(text, 1);
            int[] code = method(b, text, 0, 0).code;
            b.due("ahead by " + (3 + 3 + 3 * many), code[3] << 8 | code[4], 3 + 3 + 3 * many);
        }
    }

    /** "if: E, 153 F, S, (with else: if that S can end 167 G; F: the other S; G:) else F:" */
    private static void ifs(Bench b) {
        code(b, "class A{static void m(boolean z){if(z){}}}", 21, 0, 153, 0, 3, 177);
        code(b, "class A{static void m(boolean z){if(z){}else{}}}", 21, 0, 153, 0, 6, 167, 0, 3, 177);
        code(b, "class A{static int m(boolean z){if(z)return 1;else return 2;}}", 21, 0, 153, 0, 5, 4, 172, 5, 172);
        code(b, "class A{static void m(boolean z){if(z)return;else z=z;}}", 21, 0, 153, 0, 4, 177, 21, 0, 54, 0, 177);
        code(b, "class A{static void m(boolean z){if(z)z=z;else return;}}", 21, 0, 153, 0, 10, 21, 0, 54, 0, 167, 0, 4, 177, 177);
        same(b, "FRAMES", places(b, "class A{static int m(boolean z){if(z)return 1;else return 2;}}"), 7);
        same(b, "FRAMES", places(b, "class A{static void m(boolean z){if(z){}else{}}}"), 8);
    }

    private static int[] places(Bench b, String text) {
        Made.Method m = method(b, text, 0, 0);
        int[] row = new int[m.places.size()];
        for (int f = 0; f < row.length; f++) {
            row[f] = m.places.get(f);
        }
        return row;
    }

    /** "while: L: E, 153 X, S, if that can end 167 L; X: (while (true) without E and 153)" */
    private static void whiles(Bench b) {
        code(b, "class A{static void m(boolean z){while(z){}}}", 21, 0, 153, 0, 6, 167, 255, 251, 177);
        code(b, "class A{static void m(boolean z){while(z)return;}}", 21, 0, 153, 0, 4, 177, 177);
        code(b, "class A{static void m(boolean z){while(z)break;}}", 21, 0, 153, 0, 6, 167, 0, 3, 177);
        code(b, "class A{static void m(boolean z){while(z)continue;}}", 21, 0, 153, 0, 6, 167, 255, 251, 177);
        code(b, "class A{static int m(){while(true)return 1;}}", 4, 172);
        code(b, "class A{static void m(){while((true)){}}}", 4, 153, 0, 6, 167, 255, 252, 177);
        // where no jump goes there is no FRAME
        same(b, "FRAMES", places(b, "class A{static int m(){while(true)return 1;}}"));
        same(b, "FRAMES", places(b, "class A{static void m(boolean z){while(z)return;}}"), 6);
        same(b, "FRAMES", places(b, "class A{static void m(boolean z){while(z){}}}"), 0, 8);
        // behind an inner while, continue goes to the outer one, with what is in sight there
        b.right("class A{static void m(boolean z){while(z){int x=1;while(z){int y=2;}continue;}}}", 1);
        b.right("class A{static void m(boolean z){while(z){int x=1;while(z){int y=2;continue;}if(z)break;}z=z;}}", 1);
        b.right("class A{static int m(boolean z){int a=1;while(true){int x=1;while(true){int y=2;if(z)break;if(z)continue;}if(z)continue;if(z)break;}return a;}}", 1);
    }

    /** "try: 0, BLOCK, if that can end 167 G; at H 58 n, the other BLOCK, G: ; a HANDLER from the 0 on to ahead of that 167 (or H, without)" */
    private static void tries(Bench b) {
        code(b, "class A{static void m(){try{}catch(Fault e){}}}", 0, 167, 0, 5, 58, 0, 177);
        code(b, "class A{static void m(){try{return;}catch(Fault e){}}}", 0, 177, 58, 0, 177);
        code(b, "class A{static void m(){try{}catch(Fault e){return;}}}", 0, 167, 0, 6, 58, 0, 177, 177);
        code(b, "class A{static int m(){try{return 1;}catch(Fault e){return 2;}}}", 0, 4, 172, 58, 0, 5, 172);
        Made.Method m = method(b, "class A{static void m(){try{}catch(Fault e){}}}", 0, 0);
        same(b, "HANDLER with a jump", Arrays.copyOf(m.handlers.get(0), 3), 0, 1, 4);
        Made.Method n = method(b, "class A{static void m(){try{return;}catch(Fault e){}}}", 0, 0);
        same(b, "HANDLER without", Arrays.copyOf(n.handlers.get(0), 3), 0, 2, 2);
        b.due("STACK for what is thrown", n.stack, 1);
        // in the order in which their first BLOCKS end
        String nested = "class A{static void m(){try{try{}catch(NullFault e){try{}catch(CastFault f){}}}catch(Fault e){try{}catch(SizeFault f){}}}}";
        b.right(nested, 1);
        Made made = made(b, nested, 0);
        String[] order = {"NullFault", "CastFault", "Fault", "SizeFault"};
        for (int h = 0; h < order.length; h++) {
            b.due("HANDLER " + h, made.classNamed(made.methods.get(0).handlers.get(h)[3]).equals(order[h]), true);
        }
        // at H the CLASS alone, and what was in sight ahead of the try
        Made.Method sight = method(b, "class A{static void m(int a){try{int x=1;}catch(Fault e){int y=2;}}}", 0, 0);
        same(b, "locals at H", sight.frameLocals.get(0), -1);
        b.due("stack at H", sight.frameStacks.get(0).length, 1);
        same(b, "locals at G", sight.frameLocals.get(1), -1);
        b.due("stack at G", sight.frameStacks.get(1).length, 0);
    }

    /** "its BLOCK; if that can end, 177"; "E alone: E, and 87 if it gives something" */
    private static void withoutResult(Bench b) {
        code(b, "class A{static void m(){}}", 177);
        code(b, "class A{static void m(){return;}}", 177);
        code(b, "class A{static void m(){throw null;}}", 1, 191);
        code(b, "class A{static int f(){return 1;}static void m(){f();}}", 184, 9, 87, 177);
        code(b, "class A{static void m(){m();}}", 184, 7, 177);
    }

    /** "(int, boolean: INT)", "(null: NULL)", arrays and classes by their CLASS */
    private static void fittingTypes(Bench b) {
        String text = "class A{static int t(int a,boolean c,A d,int[] e,A[] f,int g){return g;}"
            + "static void m(boolean z,A a,int[] i,A[] r){int n=t(1,z,a,i,r,z?1:2);n=t(n,true,null,null,null,z?1:2);}}";
        b.right(text, 1);
        Made made = made(b, text, 0);
        Made.Method m = made.methods.get(1);
        int[] stack = m.frameStacks.get(0);
        same(b, "numbers", Arrays.copyOf(stack, 2), -1, -1);
        b.due("a class", made.classNamed(stack[2]).equals("A"), true);
        b.due("ints", made.classNamed(stack[3]).equals("[I"), true);
        b.due("an array", made.classNamed(stack[4]).equals("[LA;"), true);
        same(b, "null", m.frameStacks.get(2), -1, -1, -2, -2, -2);
        int[] locals = m.frameLocals.get(0);
        b.due("locals", locals.length, 4);
        b.due("a boolean", locals[0], -1);
        b.due("a class", made.classNamed(locals[1]).equals("A"), true);
        b.due("ints", made.classNamed(locals[2]).equals("[I"), true);
        b.due("an array", made.classNamed(locals[3]).equals("[LA;"), true);
        b.due("one more local", m.frameLocals.get(2).length, 5);
    }

    private static void choice(Bench b, String type, String one, String other, String want) {
        String text = "class A{static void m(boolean z,A a,B c,Object o,A[] r){" + type + " n=z?" + one + ":" + other + ";}}class B extends A{}";
        b.right(text, 2);
        Made made = made(b, text, 0);
        int[] stack = made.methods.get(0).frameStacks.get(1);
        b.due("one at G of " + text, stack.length, 1);
        boolean right = want.isEmpty() ? stack[0] == -2 : want.equals("I") ? stack[0] == -1 : stack[0] > 0 && made.classNamed(stack[0]).equals(want);
        b.due("TYPE at G of " + text, right, true);
    }

    /** "at G of ? its own": the TYPE that the other one fits. */
    private static void choiceInFrames(Bench b) {
        choice(b, "int", "1", "2", "I");
        choice(b, "boolean", "z", "true", "I");
        choice(b, "A", "a", "c", "A");
        choice(b, "A", "c", "a", "A");
        choice(b, "B", "c", "c", "B");
        choice(b, "A", "c", "c", "B");
        choice(b, "A", "null", "c", "B");
        choice(b, "A", "c", "null", "B");
        choice(b, "A", "null", "null", "");
        choice(b, "Object", "a", "o", "Object");
        choice(b, "Object", "r", "o", "Object");
        choice(b, "Object", "r", "new B[1]", "[LA;");
        choice(b, "Object", "null", "r", "[LA;");
        // of two at one PLACE the later one's
        String text = "class A{static Object m(boolean z,A a,Object o){return z?o:z?null:a;}}";
        b.right(text, 1);
        Made made = made(b, text, 0);
        Made.Method m = made.methods.get(0);
        int[] last = m.frameStacks.get(m.places.size() - 1);
        b.due("the outer choice", made.classNamed(last[0]).equals("Object"), true);
    }

    /** "one that comes to a PLACE with one takes its place" */
    private static void framesTakePlaces(Bench b) {
        Made.Method m = method(b, "class A{static void m(boolean z){if(z){int x=1;if(z){int y=1;if(z)x=2;}}}}", 0, 0);
        b.due("one FRAME", m.places.size(), 1);
        same(b, "what is in sight for the outermost", m.frameLocals.get(0), -1);
        Made.Method n = method(b, "class A{static void m(boolean z){while(z){int x=1;if(z){int y=1;if(z)y=2;}}}}", 0, 0);
        same(b, "ahead of the jump back x is in sight", n.frameLocals.get(1), -1, -1);
        b.right("class A{static void m(boolean z){if(z){int x=1;if(z){int y=1;if(z)x=2;}}}}", 1);
        b.right("class A{static void m(boolean z){try{int x=1;if(z)x=2;}catch(Fault e){int y=1;if(z)y=2;}}}", 1);
    }

    /** A FRAME with thirty LOCALS and twenty on the stack has them all. */
    private static void fullFrame(Bench b) {
        StringBuilder row = new StringBuilder("class A{static void m(boolean z){");
        for (int i = 0; i < 29; i++) {
            row.append(i % 2 == 0 ? "int" : "A").append(" v").append(i).append(i % 2 == 0 ? "=1;" : "=null;");
        }
        String print = "print(" + "1+(".repeat(19) + "(z?1:2)" + ")".repeat(19) + ");";
        String text = row + print + print + "if(z)print(1);}}";
        b.right(text, 1);
        Made made = made(b, text, 0);
        Made.Method m = made.methods.get(0);
        b.due("LOCALS", m.locals, 30);
        b.due("STACK", m.stack, 20);
        b.due("FRAMES", m.places.size(), 5);
        int[] heights = {19, 20, 19, 20, 0};
        for (int f = 0; f < heights.length; f++) {
            int[] locals = m.frameLocals.get(f);
            int[] stack = m.frameStacks.get(f);
            b.due("locals", locals.length, 30);
            b.due("on the stack", stack.length, heights[f]);
            for (int i = 0; i < 30; i++) {
                b.due("local " + i, locals[i] < 0, i == 0 || i % 2 == 1);
            }
            for (int type : stack) {
                b.due("on the stack", type, -1);
            }
        }
    }

    /** Whatever an E is made of, what waits below it stays, and one comes in its place. */
    private static void waitingOnTheStack(Bench b) {
        String head = "class A{int x;boolean z;A a;int[] i;A[] r;Object o;static int t(Object a,int n,int k){return k;}static int u(Object a,boolean n,int k){return k;}"
            + "static int v(Object a,Object n,int k){return k;}int f(int a,int c){return a;}A g(){return this;}static int h(int a,int c){return c;}static void w(){}";
        String[] ints = {"1", "x", "-x", "~x", "x+1", "x*x-x", "x<<1", "i[x]", "r[0].i[1]", "i.length", "a.x", "g().x", "f(1,2)", "this.f(x,3)", "h(1,2)", "A.h(x,x)",
            "z?1:2", "(x)", "new int[3][1]", "new int[x].length", "new A[2].length", "((A)o).x", "f(f(1,2),h(3,4))", "z?f(1,2):h(1,2)", "x&1|x^2", "t(a,1,2)"};
        String[] truths = {"true", "z", "!z", "z&&z", "z||z", "z&z", "x<1", "x==1", "x!=x", "a==null", "null!=a", "o instanceof A", "!(x<1)&&z||a==o", "z?z:!z", "a.z",
            "i==null", "g()==g()", "z==z", "(z)", "null instanceof A"};
        String[] others = {"null", "this", "a", "a.a", "r[1]", "new A()", "new int[1]", "new A[x]", "(A)o", "(Object)a", "g()", "z?a:null", "z?null:null", "g().g().a", "r", "i"};
        StringBuilder all = new StringBuilder();
        String[][] rows = {ints, truths, others};
        String[] calls = {"t", "u", "v"};
        for (int kind = 0; kind < 3; kind++) {
            for (String e : rows[kind]) {
                b.right(head + "void m(){x=" + calls[kind] + "(o," + e + ",z?1:2);}}", 1);
                b.right(head + "void m(){x=1+(x*" + calls[kind] + "(a," + e + ",z&&z?x:2));w();x=z?1:2;}}", 1);
                b.right(head + "void m(){i[1]=" + calls[kind] + "(a," + e + ",z?x:2);a.x=" + calls[kind] + "(a," + e + ",z?x:2);}}", 1);
                all.append("x=").append(calls[kind]).append("(o,").append(e).append(",1);");
            }
        }
        b.right(head + "void m(){" + all + "}}", 1);
        // an S leaves nothing on the stack: a FRAME behind it has none
        String[] statements = {"x=1;", "int n=1;", "A n=a;", "print(x);", "print(z);", "f(1,2);", "g();", "w();", "a.x=1;", "a.a=a;", "i[0]=1;", "r[0]=null;", "if(z){}",
            "while(z){}", "try{}catch(Fault e){}", "{x=1;}", "z=a==o;", "o=z?a:o;"};
        for (String s : statements) {
            String text = head + "void m(){" + s + "if(z)x=2;" + "}}";
            b.right(text, 1);
            Made.Method m = method(b, text, 0, 7);
            b.due("the stack behind " + s, m.frameStacks.get(m.places.size() - 1).length, 0);
        }
    }

    /** "m (180, 181, too): a MEMBER of the object's class by its TYPE, or of the class told, or, for a NAME alone, of the class in whose text it stands" */
    private static void membersNamed(Bench b) {
        String text = "class A{int x;int f(){return x;}static int s(){return 1;}}class B extends A{}class C extends B{int m(A a,B c){"
            + "x=1;a.x=2;c.x=3;this.x=4;f();a.f();c.f();this.f();s();A.s();B.s();C.s();return x+a.x+c.x;}}";
        b.right(text, 3);
        Made made = made(b, text, 2);
        int[] code = made.methods.get(0).code;
        String owners = "";
        for (int at = 0; at < code.length; at += Made.width(code[at])) {
            if (code[at] >= 180 && code[at] <= 184) {
                owners += made.classNamed(made.constants[code[at + 1]][1]);
            }
        }
        b.due("owners " + owners, owners.equals("CABC" + "CABC" + "CABC" + "CAB"), true);
    }

    /** "A constant is made when it is first wanted, those that it needs first, in their order" */
    private static void wantedFirst(Bench b) {
        b.right("class A{int I;A A;A[] LA;void m(A m){m.m(A);}void n(){int x=1000;x=1000;x=1001;print(I);}}", 1);
        b.right("class B extends Fault{}class A extends B{B b;static A A(B[] a){try{return(A)a[0];}catch(B e){if(e instanceof A)throw new B();}return new A();}}", 2);
        Made made = made(b, "class I{int I;boolean Z;I V(){return null;}void L(){I=1;Z=true;}}", 0);
        String[] texts = {"I", "", "Object", "", "Z", "V", "()LI;", "L", "()V"};
        for (int k = 0; k < texts.length; k++) {
            b.due("constant " + (k + 1), made.texts[k + 1].equals(texts[k]), true);
        }
    }

    private static void feedTwenty(ClassMill x, String text) {
        int[] n = new int[5];
        for (int i = 0; i < 20; i++) {
            n[i / 4] = n[i / 4] << 8 | text.charAt(i);
        }
        x.feed(n[0], n[1], n[2], n[3], n[4]);
    }

    /** As many texts as 512 calls can bring, each with seven names of its own, and then a right one. */
    private static void manyTexts(Bench b) {
        String letters = "abcdefghijklmnopqrstuvwxyzABCDEFGHIJKLMNOPQRSTUVWXYZ";
        ClassMill x = new ClassMill();
        int name = 0;
        for (int turn = 0; turn < 252; turn++) {
            StringBuilder text = new StringBuilder();
            for (int i = 0; i < 7; i++) {
                text.append(letters.charAt(name / 52)).append(letters.charAt(name % 52)).append(i < 6 ? " " : "");
                name++;
            }
            feedTwenty(x, text.toString());
            b.due("compile of " + text, x.compile(), -1);
        }
        b.due("FAULT", x.fault(0) * 10 + x.fault(1), 20);
        feedTwenty(x, "class Zoe{Zoe zoe;} ");
        b.due("the right one", x.compile(), 1);
        b.due("its size", x.image(0, -1), 38);
        b.due("its name's length", x.image(0, 4), 3);
    }

    /** What a text gives is no matter of the texts before it. */
    private static void textsAfterTexts(Bench b) {
        String[] texts = {"class A{int x;int y;int f(int a,int b,int c){return a;}int g(boolean z){return 1;}}class B extends A{int h(A a){return a.f(1,2,3);}}",
            "class A{}", "class B{int f(){return 1;}}class A{B b;int g(){return b.f();}}",
            "class A{}class B{static void m(){A a@=new B();}}", "class C{static void f(){}static int g(int n){return n;}}", "class A{static int f(){return @g(x);}}",
            "class B{int @f(){}}", "class A{int a;}class B extends A{int m(){return a;}}", "class A{}class B extends A{int m(){return @a;}}",
            "class B extends A{}class A extends Fault{static void m(){throw new B();}}", "class B extends A{}class A{static void m(){@throw new B();}}",
            "class A{void m(){int a=1;int b=2;}void n(){@a=1;}}", "class A{boolean z;void m(){while(z){z=!z;if(z)break;}}}", "class A{void m(){@break;}}",
            "class Q{R r;}class R{int x;}", "class Q{@R r;}", "class A{void m(int a,int b){}}class B extends A{void m(int a,int b){}}",
            "class A{void m(){}}class B extends A{void m(){}}", "class A{void m(){}}class B{int m(){return 1;}}"};
        for (String before : texts) {
            for (String behind : texts) {
                oneBehindTheOther(b, before.replace("@", ""), behind.replace("@", ""), behind.indexOf('@'));
            }
        }
    }

    private static void oneBehindTheOther(Bench b, String before, String text, int place) {
        ClassMill fresh = new ClassMill();
        int images = Bench.compile(fresh, text);
        ClassMill x = new ClassMill();
        Bench.compile(x, before);
        b.due("compile of " + text + " behind " + before, Bench.compile(x, text), images);
        b.due("compile of " + text, images >= 0, place < 0);
        b.due("FAULT of " + text + " behind " + before, x.fault(0), fresh.fault(0));
        b.due("PLACE of " + text + " behind " + before, x.fault(1), place);
        for (int k = 0; k < images; k++) {
            b.due("IMAGE of " + text + " behind " + before, Arrays.equals(Bench.image(x, k), Bench.image(fresh, k)), true);
        }
    }
}
