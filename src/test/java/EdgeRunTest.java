/** The boundary sentences of section 6 and of promises 13 to 16. */
public final class EdgeRunTest {
    private static final int[] EMPTY = {};
    private static final int[] NO_FRAMES = {0};
    private static final int LEAST = Integer.MIN_VALUE;
    private static final int MOST = Integer.MAX_VALUE;

    public static void main(String[] args) {
        Bench b = new Bench("EdgeRunTest");
        startOfNone(b);
        startOfOthers(b);
        startInPlace(b);
        startRefused(b);
        stepsAtMost(b);
        stepsOfNone(b);
        manySteps(b);
        lookOfOthers(b);
        lookOfNone(b);
        lookWhileItGoesOn(b);
        lookBehindItsEnd(b);
        gave(b);
        madeWithZero(b);
        wrap(b);
        divided(b);
        shifted(b);
        compared(b);
        branches(b);
        numbers16(b);
        stackOps(b);
        indices(b);
        sizes(b);
        nulls(b);
        casts(b);
        stores(b);
        ofTwo(b);
        nearest(b);
        fromTheLeft(b);
        handlersFromTo(b);
        handlersFirst(b);
        handlersUp(b);
        stackIsThatAlone(b);
        thrownIsNew(b);
        roomForObjects(b);
        roomForCells(b);
        roomForFaults(b);
        roomEndsThere(b);
        depths(b);
        printed(b);
        outOfOthers(b);
        b.end();
    }

    private static void prints(Bench b, String body, int... values) {
        String text = "class A{int x;A a;static int t(int n){print(n);return n;}static void m(){" + body + "}}";
        b.printed(b.ran(text, 8, 1), text, values);
    }

    private static ClassMill bytes(Bench b, int kind, int stack, int locals, int[] code, int[] handlers, int... frames) {
        ClassMill x = new ClassMill();
        b.due("load", Bench.load(x, Bench.method(1, kind, stack, locals, code, handlers, frames.length == 0 ? NO_FRAMES : frames)), 8);
        b.due("verify at " + x.where(2), x.verify(), 0);
        b.due("start", x.start(8, 0), true);
        return x;
    }

    /** "false if the SPACE isn't verified, there is none such" */
    private static void startOfNone(Bench b) {
        ClassMill x = new ClassMill();
        b.due("nothing there", x.start(8, 0), false);
        x.verify();
        for (int c = 0; c < 8; c++) {
            b.due("class " + c, x.start(c, 0), false);
        }
        b.due("class 8", x.start(8, 0), false);
        Bench.compile(x, "class A{static void m(){}static void n(){}}class B{}");
        x.keep(0);
        b.due("not verified", x.start(8, 0), false);
        x.keep(1);
        b.due("not verified", x.start(8, 0), false);
        b.due("verify", x.verify(), 0);
        int[] methods = {-1, 2, 3, 12, 100, LEAST, MOST};
        for (int m : methods) {
            b.due("method " + m, x.start(8, m), false);
        }
        int[] classes = {-1, 0, 7, 9, 10, 16, LEAST, MOST};
        for (int c : classes) {
            b.due("class " + c, x.start(c, 0), false);
        }
        b.due("the first", x.start(8, 0), true);
        b.due("the last", x.start(8, 1), true);
        b.due("patch", x.patch(8, 0, 74), true);
        b.due("not verified any more", x.start(8, 0), false);
    }

    /** "or it isn't static or has parameters" */
    private static void startOfOthers(Bench b) {
        ClassMill x = b.brought("class A{void a(){}static void b(int n){}static int c(A a,int[] b,boolean c,A[] d,int e,int f){return 1;}int d(){return 1;}"
            + "void e(int n){}static void f(){}static int g(){return 1;}static A h(){return null;}}class B extends A{}");
        boolean[] right = {false, false, false, false, false, true, true, true};
        for (int m = 0; m < right.length; m++) {
            b.due("method " + m, x.start(8, m), right[m]);
        }
        // what a class extends has is not its own
        b.due("method 5 of B", x.start(9, 5), false);
        b.due("method 0 of B", x.start(9, 0), false);
    }

    /** "Method m .. is begun, in place of any run" */
    private static void startInPlace(Bench b) {
        ClassMill x = b.brought("class A{int x;int y;static int f(int n){print(n);A a=new A();int[] i=new int[3];if(n==0)return 1;return f(n-1);}static int m(){return f(3);}"
            + "static void n(){}static void o(){throw null;}}");
        for (int steps : new int[] {0, 1, 12, 30, 20000}) {
            b.due("start", x.start(8, 1), true);
            if (steps > 0) {
                x.run(steps);
            }
            b.due("start", x.start(8, 2), true);
            int[] fresh = {1, -1, 0, 0, 0, 1, 0, 8, 2, 0, 0};
            for (int what = 0; what < fresh.length; what++) {
                b.due("look(" + what + ") behind " + steps, x.look(what), fresh[what]);
            }
            b.due("out(0)", x.out(0), 0);
        }
        x.start(8, 3);
        x.run(10);
        b.due("thrown", x.look(0) * 10 + x.look(1), 32);
        x.start(8, 1);
        b.due("nothing given yet", x.look(1), -1);
        x.run(20000);
        b.due("given", x.look(0) * 10 + x.look(1), 21);
        b.due("made", x.look(3) * 100 + x.look(4), 820);
    }

    private static void startRefused(Bench b) {
        ClassMill x = b.brought("class A{static void m(){print(1);print(2);}void n(){}static void o(int n){}}");
        x.start(8, 0);
        x.run(2);
        String before = Bench.seen(x);
        b.due("not static", x.start(8, 1), false);
        b.due("parameters", x.start(8, 2), false);
        b.due("none such", x.start(8, 3), false);
        b.due("none such", x.start(9, 0), false);
        b.stays("start", before, x);
        b.due("and it goes on", x.run(10), 3);
    }

    /** "At most n STEPS (1 .. 20000; NONE for another n): how many were done." */
    private static void stepsAtMost(Bench b) {
        ClassMill x = b.brought("class A{static void m(){while(true){}}}");
        x.start(8, 0);
        String before = Bench.seen(x);
        for (int n : new int[] {0, -1, -20000, 20001, 20002, 40000, LEAST, MOST}) {
            b.due("run(" + n + ")", x.run(n), -1);
        }
        b.stays("run", before, x);
        b.due("run(1)", x.run(1), 1);
        b.due("look(2)", x.look(2), 1);
        b.due("run(2)", x.run(2), 2);
        b.due("run(19999)", x.run(19999), 19999);
        b.due("run(20000)", x.run(20000), 20000);
        b.due("look(2)", x.look(2), 40002);
        b.due("it goes on", x.look(0), 1);
    }

    private static void stepsOfNone(Bench b) {
        ClassMill x = new ClassMill();
        b.due("none was begun", x.run(1), 0);
        b.due("none was begun", x.run(20000), 0);
        b.due("none was begun", x.run(0), -1);
        b.due("none was begun", x.run(20001), -1);
        ClassMill y = b.brought("class A{static void m(){print(1);}}");
        b.due("none was begun", y.run(5), 0);
        y.start(8, 0);
        b.due("one", y.run(1), 1);
        b.due("up to its end", y.run(20000), 2);
        b.due("behind it", y.run(1), 0);
        b.due("behind it", y.run(20001), -1);
        b.due("look(2)", y.look(2), 3);
        y.start(8, 0);
        b.due("just so many", y.run(3), 3);
        b.due("its end", y.look(0), 2);
        y.start(8, 0);
        b.due("one less", y.run(2), 2);
        b.due("not its end", y.look(0), 1);
    }

    /** One by one or many at once: the same. */
    private static void manySteps(Bench b) {
        String text = "class A{static int f(int n){try{if(n<1)return 7/n;return f(n-1);}catch(ArithFault e){print(n);throw new SizeFault();}}"
            + "static void m(){try{print(f(2));}catch(Fault e){print(9);}}}";
        ClassMill x = b.brought(text);
        ClassMill y = b.brought(text);
        x.start(8, 1);
        y.start(8, 1);
        x.run(20000);
        int steps = 0;
        while (y.look(0) == 1 && steps < 200) {
            steps += y.run(1);
        }
        b.due("steps", steps, x.look(2));
        for (int what = 0; what < 14; what++) {
            b.due("look(" + what + ")", y.look(what), x.look(what));
        }
        b.printed(x, text, 0, 9);
        b.printed(y, text, 0, 9);
    }

    /** "NONE for others." */
    private static void lookOfOthers(Bench b) {
        ClassMill x = b.brought("class A{static void m(){print(1);}}");
        int[] others = {-1, -2, 14, 15, 100, LEAST, MOST};
        for (int what : others) {
            b.due("look(" + what + ") without a run", x.look(what), -1);
        }
        x.start(8, 0);
        for (int what : others) {
            b.due("look(" + what + ") with one", x.look(what), -1);
        }
        x.run(10);
        for (int what : others) {
            b.due("look(" + what + ") behind it", x.look(what), -1);
        }
    }

    private static void seen(Bench b, ClassMill x, String what, int... values) {
        for (int i = 0; i < values.length; i++) {
            b.due("look(" + i + ") " + what, x.look(i), values[i]);
        }
    }

    /** "0: 0 none was begun"; "(7 to 10 NONE but with 1)" */
    private static void lookOfNone(Bench b) {
        int[] none = {0, -1, 0, 0, 0, 0, 0, -1, -1, -1, -1, 0, 0, 0};
        ClassMill x = new ClassMill();
        seen(b, x, "of a new one", none);
        x.feed(0, 0, 0, 0, 0);
        b.due("look(13)", x.look(13), 20);
        x.end(0);
        Bench.compile(x, "class A{static void m(){print(1);new A().n();}void n(){}}");
        seen(b, x, "behind compile", none);
        x.keep(0);
        none[11] = 1;
        seen(b, x, "behind keep", none);
        x.verify();
        none[12] = 1;
        seen(b, x, "behind verify", none);
        x.start(8, 0);
        x.run(5);
        x.clear();
        none[11] = 0;
        none[12] = 0;
        seen(b, x, "behind clear", none);
    }

    private static void lookWhileItGoesOn(Bench b) {
        ClassMill x = b.brought("class B{static int f(int a,int c){return a-c;}}class A{static void m(){print(1+B.f(7,8));}}");
        x.start(9, 0);
        // 4, 16 7, 16 8, 184 m, 96, 186, 177 of m; 21 0, 21 1, 100, 172 of f
        int[][] states = {{9, 0, 0, 0, 1}, {9, 0, 1, 1, 1}, {9, 0, 3, 2, 1}, {9, 0, 5, 3, 1}, {8, 0, 0, 0, 2}, {8, 0, 2, 1, 2}, {8, 0, 4, 2, 2}, {8, 0, 5, 1, 2},
            {9, 0, 7, 2, 1}, {9, 0, 8, 1, 1}, {9, 0, 9, 0, 1}};
        for (int step = 0; step < states.length; step++) {
            int[] s = states[step];
            seen(b, x, "behind " + step, 1, -1, step, 0, 0, s[4], step == 10 ? 1 : 0, s[0], s[1], s[2], s[3], 2, 1, 0);
            x.run(1);
        }
        seen(b, x, "behind its end", 2, -1, 11, 0, 0, 0, 1, -1, -1, -1, -1, 2, 1, 0);
        b.due("out(0)", x.out(0), 0);
    }

    /** "5 methods that are begun (0 behind 2, 3)", which stay behind 4 and 5 */
    private static void lookBehindItsEnd(Bench b) {
        String text = "class A{static int d(){return 5;}static int t(){throw new CastFault();}static int r(){int[] i=new int[20001];return 1;}static int e(){return e();}"
            + "static int a(){return d();}static int b(){return t();}static int c(){return r();}}";
        int[] starts = {0, 4, 1, 5, 2, 6, 3};
        int[][] ends = {{2, 5, 2, 0, 0, 0}, {2, 5, 4, 0, 0, 0}, {3, 5, 2, 1, 0, 0}, {3, 5, 3, 1, 0, 0}, {4, -1, 2, 0, 0, 1}, {4, -1, 3, 0, 0, 2}, {5, -1, 60, 0, 0, 60}};
        for (int i = 0; i < starts.length; i++) {
            ClassMill x = b.ran(text, 8, starts[i]);
            seen(b, x, "of method " + starts[i], ends[i]);
            for (int what = 7; what <= 10; what++) {
                b.due("look(" + what + ") of method " + starts[i], x.look(what), -1);
            }
            b.due("run", x.run(20000), 0);
            b.due("steps stay", x.look(2), ends[i][2]);
        }
    }

    /** "1 what it gave (an int or boolean; the class of an object; of an array of a class that and 100, of ints 200; NONE null or nothing; 2 alone)" */
    private static void gave(Bench b) {
        String[] types = {"int", "int", "int", "int", "boolean", "boolean", "void", "Object", "Object", "Object", "Object", "Object", "Object", "Object", "Object", "A", "B[]"};
        String[] values = {"0", "-1", "2147483647", "-2147483647-1", "true", "false", "", "null", "new Object()", "new StoreFault()", "new A()", "new H()", "new int[0]",
            "new Object[0]", "new H[1]", "new B()", "null"};
        int[] given = {0, -1, MOST, LEAST, 1, 0, -1, -1, 0, 7, 8, 15, 200, 100, 115, 9, -1};
        for (int i = 0; i < types.length; i++) {
            String text = "class A{static " + types[i] + " m(){return " + values[i] + ";}}class B extends A{}class C{}class D{}class E{}class F{}class G{}class H{}";
            ClassMill x = b.ran(text, 8, 0);
            b.due("state of " + values[i], x.look(0), 2);
            b.due("given by " + values[i], x.look(1), given[i]);
        }
        String[] thrown = {"Fault", "NullFault", "StoreFault", "B"};
        int[] classes = {1, 2, 7, 9};
        for (int i = 0; i < thrown.length; i++) {
            ClassMill x = b.ran("class A{static int m(){throw new " + thrown[i] + "();}}class B extends Fault{}", 8, 0);
            b.due("state of " + thrown[i], x.look(0), 3);
            b.due("thrown " + thrown[i], x.look(1), classes[i]);
        }
    }

    /** "Objects are made with fields 0, false, null (all that they extend, too), elements likewise." */
    private static void madeWithZero(Bench b) {
        StringBuilder row = new StringBuilder("class K0{int a;boolean b;int[] c;K0 d;K0[] e;int f;int g;int h;int i;int j;int k;int l;}");
        for (int k = 1; k < 7; k++) {
            row.append("class K").append(k).append(" extends K").append(k - 1).append("{int a;boolean b;int[] c;K0 d;K0[] e;int f;int g;int h;int i;int j;int k;int l;}");
        }
        row.append("class M{static void m(){K6 x=new K6();x.l=1;x.a=2;x=new K6();print(x.a);print(x.b);print(x.c==null);print(x.d==null);print(x.e==null);print(x.l);"
            + "K0 y=x;print(y.a);print(y.l);y.l=5;x.a=6;print(x.l);print(y.a);print(y.l);print(x.a);int[] i=new int[2];i[1]=7;i=new int[2];print(i[1]);"
            + "K0[] r=new K0[3];print(r[2]==null);}}");
        ClassMill x = b.ran(row.toString(), 15, 0);
        b.printed(x, "all that they extend", 0, 0, 1, 1, 1, 0, 0, 0, 0, 0, 5, 6, 0, 1);
        b.due("fields and elements", x.look(4), 84 + 84 + 2 + 2 + 3);
        b.due("objects", x.look(3), 5);
        // a new run finds nothing of the one before
        x.start(15, 0);
        x.run(20000);
        b.printed(x, "the next run", 0, 0, 1, 1, 1, 0, 0, 0, 0, 0, 5, 6, 0, 1);
        b.due("fields and elements", x.look(4), 84 + 84 + 2 + 2 + 3);
    }

    /** "ints wrap" */
    private static void wrap(Bench b) {
        String h = "int h=2147483647;int l=-h-1;";
        prints(b, h + "print(h);print(l);print(h+1);print(l-1);print(l+l);print(h+h);print(-l);print(-h);print(l-h);print(h-l);print(0-l);", MOST, LEAST, LEAST, MOST, 0, -2, LEAST,
            -MOST, 1, -1, LEAST);
        prints(b, h + "print(h*2);print(l*2);print(h*h);print(l*l);print(l*-1);print(h*-1);print(65536*65536);print(65536*32768);print(46341*46341);", -2, 0, 1, 0, LEAST, -MOST, 0,
            LEAST, -2147479015);
        prints(b, h + "print(~h);print(~l);print(~0);print(~-1);print(h&l);print(h|l);print(h^l);print(l^l);", LEAST, MOST, -1, 0, 0, -1, -1, 0);
    }

    /** "/ and % towards 0 (the least by -1: itself, 0)", "ArithFault (by 0)" */
    private static void divided(Bench b) {
        prints(b, "int l=-2147483647-1;print(l/-1);print(l%-1);print(l/1);print(l%1);print(l/2);print(l/l);print(l%l);print(1/l);print(1%l);print(2147483647/-1);", LEAST, 0, LEAST, 0,
            LEAST / 2, 1, 0, 0, 1, -MOST);
        prints(b, "print(7/1);print(7%1);print(7/-1);print(7%-1);print(0/7);print(0%7);print(0/-7);print(6/7);print(-6/7);print(6%7);print(-6%7);print(7/7);print(7%7);", 7, 0, -7, 0, 0, 0,
            0, 0, 0, 6, -6, 1, 0);
        prints(b, "print(7/2);print(-7/2);print(7/-2);print(-7/-2);print(7%2);print(-7%2);print(7%-2);print(-7%-2);", 3, -3, -3, 3, 1, -1, 1, -1);
        String[] byZero = {"print(1/0);", "print(1%0);", "print(0/0);", "print(0%0);", "int z=0;print((-2147483647-1)/z);", "int z=0;print(-1%z);"};
        for (String body : byZero) {
            thrown(b, body, 4);
        }
    }

    private static void thrown(Bench b, String body, int c) {
        String text = "class A{int x;int[] i;A a;void f(){}static void m(){" + body + "}}class B extends A{}";
        ClassMill x = b.ran(text, 8, 1);
        b.due("state of " + body, x.look(0), 3);
        b.due("thrown by " + body, x.look(1), c);
        String caught = "class A{int x;int[] i;A a;void f(){}static void m(){try{" + body + "}catch(Fault e){print(1);Object o=e;print(o instanceof A);}}}class B extends A{}";
        b.printed(b.ran(caught, 8, 1), caught, 1, 0);
    }

    /** "shifts by the lowest five bits" */
    private static void shifted(Bench b) {
        int[] counts = {0, 1, 30, 31, 32, 33, 63, 64, -1, -31, -32, -33, MOST, LEAST};
        int[] values = {1, -1, 5, MOST, LEAST, LEAST + 1};
        for (int count : counts) {
            StringBuilder body = new StringBuilder("int c=" + (count == LEAST ? "-2147483647-1" : "" + count) + ";");
            int[] want = new int[values.length * 3];
            for (int i = 0; i < values.length; i++) {
                String value = values[i] == LEAST ? "(-2147483647-1)" : "(" + values[i] + ")";
                body.append("print(").append(value).append("<<c);print(").append(value).append(">>c);print(").append(value).append(">>>c);");
                want[3 * i] = values[i] << count;
                want[3 * i + 1] = values[i] >> count;
                want[3 * i + 2] = values[i] >>> count;
            }
            prints(b, body.toString(), want);
        }
    }

    private static void compared(Bench b) {
        int[] values = {LEAST, LEAST + 1, -1, 0, 1, MOST - 1, MOST};
        for (int v : values) {
            for (int w : values) {
                StringBuilder body = new StringBuilder("int l=-2147483647-1;");
                for (String sign : new String[] {"<", "<=", ">", ">=", "==", "!="}) {
                    body.append("print(").append(v == LEAST ? "l" : "(" + v + ")").append(sign).append(w == LEAST ? "l" : "(" + w + ")").append(");");
                }
                prints(b, body.toString(), v < w ? 1 : 0, v <= w ? 1 : 0, v > w ? 1 : 0, v >= w ? 1 : 0, v == w ? 1 : 0, v != w ? 1 : 0);
            }
        }
    }

    /** "153 (0) 154 (not)": with an int that is neither 0 nor 1, too */
    private static void branches(Bench b) {
        int[] pushes = {2, 3, 4, 5, 8};
        for (int push : pushes) {
            for (int op = 153; op <= 154; op++) {
                // push, op to 6, 4 186 177, 6: 5 186 177
                ClassMill x = bytes(b, 11, 1, 0, new int[] {push, op, 0, 6, 4, 186, 177, 5, 186, 177}, EMPTY, 1, 0, 7, 0, 0);
                x.run(10);
                boolean zero = push == 3;
                b.due(op + " of " + (push - 3), x.out(0), zero == (op == 153) ? 2 : 1);
                b.due("steps", x.look(2), 5);
                b.due("on the stack", x.look(0), 2);
            }
        }
        prints(b, "boolean t=true;boolean f=false;print(t&&t);print(t&&f);print(f&&t);print(f&&f);print(t||t);print(t||f);print(f||t);print(f||f);print(!t);print(!f);", 1, 0, 0, 0, 1, 1,
            1, 0, 0, 1);
        prints(b, "boolean t=true;boolean f=false;print(f&&t(1)==1);print(t&&t(2)==2);print(t||t(3)==3);print(f||t(4)==4);print(t?t(5):t(6));print(f?t(7):t(8));", 0, 2, 1, 1, 4, 1, 5, 5, 8, 8);
        prints(b, "if(true)print(1);else print(2);if(false)print(3);else print(4);if(false)print(5);while(false)print(6);int n=0;while(n<2)n=n+1;print(n);", 1, 4, 2);
    }

    /** "16 v gives v with its sign (-128 .. 127)" */
    private static void numbers16(Bench b) {
        int[] values = {0, 1, 126, 127, 128, 129, 254, 255};
        for (int v : values) {
            ClassMill x = bytes(b, 12, 1, 0, new int[] {16, v, 172}, EMPTY);
            x.run(5);
            b.due("16 " + v, x.look(1), v < 128 ? v : v - 256);
        }
        for (int op = 2; op <= 8; op++) {
            ClassMill x = bytes(b, 12, 1, 0, new int[] {op, 172}, EMPTY);
            x.run(5);
            b.due("op " + op, x.look(1), op - 3);
        }
    }

    private static void stackOps(Bench b) {
        // 87 takes one, 89 gives it once more
        ClassMill x = bytes(b, 11, 3, 0, new int[] {4, 5, 87, 186, 6, 89, 186, 186, 177}, EMPTY);
        int[] heights = {0, 1, 2, 1, 0, 1, 2, 1, 0};
        for (int step = 0; step < heights.length; step++) {
            b.due("on the stack behind " + step, x.look(10), heights[step]);
            x.run(1);
        }
        b.printed(x, "87 and 89", 1, 3, 3);
        // what is left on the stack of a method that gave back is no one's
        Bench.Row row = new Bench.Row().put(74, 77, 8).text("A").put(3, 1).text("Object").put(3, 3).text("m").text("n").text("()I").put(4, 2, 6, 7);
        row.put(2, 4, 0, 2).put(1, 5, 7, 3, 0, 0, 7, 5, 184, 8, 184, 8, 96, 172, 0, 0).put(1, 6, 7, 3, 1, 0, 7, 8, 7, 6, 54, 0, 4, 172, 0, 0);
        ClassMill y = new ClassMill();
        b.due("load", Bench.load(y, row.bytes()), 8);
        b.due("verify", y.verify(), 0);
        b.due("start", y.start(8, 0), true);
        y.run(2);
        b.due("on the stack of a new method", y.look(10), 0);
        y.run(5);
        b.due("more than it gives", y.look(10), 3);
        y.run(1);
        b.due("behind its end", y.look(10), 2);
        y.run(1);
        b.due("begun again", y.look(5) * 10 + y.look(10), 20);
        y.run(6);
        b.due("behind its end", y.look(5) * 10 + y.look(10), 13);
        y.run(9);
        b.due("given", y.look(1), 2);
        // locals are the method's own
        prints(b, "int n=5;print(t(n));n=t(6)+n;print(n);", 5, 5, 6, 11);
    }

    /** "IndexFault": below 0 and from the length on */
    private static void indices(Bench b) {
        prints(b, "int[] i=new int[3];i[0]=1;i[1]=2;i[2]=3;print(i[0]);print(i[1]);print(i[2]);A[] r=new A[1];r[0]=new A();print(r[0]==null);print(i.length);print(r.length);", 1, 2, 3, 0, 3, 1);
        String[] wrong = {"-1", "3", "4", "2147483647", "-2147483647-1", "20000", "65536"};
        for (String index : wrong) {
            thrown(b, "int[] h=new int[2];int[] j=new int[3];int[] k=new int[5];print(j[" + index + "]);", 3);
            thrown(b, "int[] h=new int[2];int[] j=new int[3];int[] k=new int[5];j[" + index + "]=1;", 3);
            thrown(b, "A[] h=new A[2];A[] j=new A[3];A[] k=new A[5];A c=j[" + index + "];", 3);
            thrown(b, "A[] h=new A[2];A[] j=new A[3];A[] k=new A[5];j[" + index + "]=null;", 3);
        }
        thrown(b, "int[] j=new int[0];print(j[0]);", 3);
        thrown(b, "A[] j=new A[0];j[0]=null;", 3);
        // what is given there is given nowhere else
        prints(b, "int[] h=new int[2];int[] j=new int[2];int[] k=new int[2];j[0]=1;j[1]=2;print(h[0]);print(h[1]);print(j[0]);print(j[1]);print(k[0]);print(k[1]);", 0, 0, 1, 2, 0, 0);
    }

    /** "SizeFault (below 0)" */
    private static void sizes(Bench b) {
        prints(b, "print(new int[0].length);print(new A[0].length);print(new int[1].length);print(new A[20].length);", 0, 0, 1, 20);
        String[] wrong = {"-1", "-2", "-2147483647", "-2147483647-1"};
        for (String size : wrong) {
            thrown(b, "int[] j=new int[" + size + "];", 6);
            thrown(b, "A[] j=new A[" + size + "];", 6);
        }
        ClassMill x = b.ran("class A{static void m(){try{int[] i=new int[-1];}catch(SizeFault e){print(5);}}}", 8, 0);
        b.due("nothing but the fault was made", x.look(3) * 10 + x.look(4), 10);
    }

    /** "NullFault (field, method, element, length of null; throw null)" */
    private static void nulls(Bench b) {
        String[] wrong = {"A c=null;print(c.x);", "A c=null;c.x=1;", "A c=null;c.f();", "A c=null;c=c.a;", "A c=null;c.a=c;", "int[] j=null;print(j[0]);", "int[] j=null;j[0]=1;",
            "A[] j=null;A c=j[0];", "A[] j=null;j[0]=null;", "int[] j=null;print(j.length);", "A[] j=null;print(j.length);", "throw null;", "Fault e=null;throw e;", "new A().a.f();",
            "A[] j=new A[1];j[0].f();"};
        for (String body : wrong) {
            thrown(b, body, 2);
        }
        prints(b, "A c=null;print(c==null);print(c instanceof A);c=(A)null;c=(A)c;print(c==null);Object o=c;print(o instanceof Object);A[] r=new A[1];r[0]=null;print(r[0]==null);", 1, 0, 1, 0, 1);
    }

    /** "CastFault (192: neither null nor fitting)"; "193: whether it is not null and fits" */
    private static void casts(Bench b) {
        String head = "class A{static int k(Object o){int n=0;if(o instanceof Object)n=n+1;if(o instanceof A)n=n+10;if(o instanceof B)n=n+100;if(o instanceof Fault)n=n+1000;"
            + "try{Object p=(Object)o;n=n+10000;}catch(CastFault e){}try{A p=(A)o;n=n+100000;}catch(CastFault e){}try{B p=(B)o;n=n+1000000;}catch(CastFault e){}"
            + "try{Fault p=(Fault)o;n=n+10000000;}catch(CastFault e){}return n;}static void m(){";
        String[] values = {"null", "new Object()", "new A()", "new B()", "new Fault()", "new IndexFault()", "new int[1]", "new A[1]", "new B[1]", "new Object[1]", "new Fault[1]"};
        int[] want = {11110000, 10001, 110011, 1110111, 10011001, 10011001, 10001, 10001, 10001, 10001, 10001};
        for (int i = 0; i < values.length; i++) {
            String text = head + "print(k(" + values[i] + "));}}class B extends A{}";
            b.printed(b.ran(text, 8, 1), text, want[i]);
        }
        thrown(b, "Object o=new A();B c=(B)o;", 5);
        thrown(b, "Object o=new int[1];A c=(A)o;", 5);
    }

    /** "StoreFault (83: not null, nor fitting what the array is of)" */
    private static void stores(Bench b) {
        String[] arrays = {"new Object[1]", "new A[1]", "new B[1]", "new Fault[1]"};
        String[] values = {"null", "new Object()", "new A()", "new B()", "new Fault()", "new SizeFault()", "new int[1]", "new A[1]", "new B[1]"};
        String[] fits = {"111111111", "101100000", "100100000", "100011000"};
        for (int i = 0; i < arrays.length; i++) {
            for (int k = 0; k < values.length; k++) {
                String text = "class A{static void m(){Object[] r=" + arrays[i] + ";Object o=" + values[k] + ";try{r[0]=o;print(r[0]==o);}catch(StoreFault e){print(7);print(r[0]==null);}}}"
                    + "class B extends A{}";
                ClassMill x = b.ran(text, 8, 0);
                if (fits[i].charAt(k) == '1') {
                    b.printed(x, text, 1);
                } else {
                    b.printed(x, text, 7, 1);
                }
            }
        }
    }

    /** "of two null ahead of index, that ahead of StoreFault" */
    private static void ofTwo(Bench b) {
        thrown(b, "Object[] j=null;j[-1]=new A();", 2);
        thrown(b, "int[] j=null;j[5]=1;", 2);
        thrown(b, "int[] j=null;print(j[-5]);", 2);
        thrown(b, "Object[] j=new A[1];j[1]=new Object();", 3);
        thrown(b, "Object[] j=new A[1];j[-1]=new Object();", 3);
        thrown(b, "Object[] j=new A[1];j[0]=new Object();", 7);
        // by 0 when both sides have been looked at
        prints(b, "try{print(t(1)/t(0));}catch(ArithFault e){print(9);}", 1, 0, 9);
    }

    /** "the one of that name of the object's own class, or the nearest that it extends" */
    private static void nearest(Bench b) {
        String text = "class K0{int f(){return 0;}int g(){return f();}}class K1 extends K0{}class K2 extends K1{int f(){return 2;}}class K3 extends K2{}"
            + "class K4 extends K3{int f(){return 4;}int g(){return 10+f();}}class K5 extends K4{}class K6 extends K5{int h(){return 100+g();}}"
            + "class M{static void m(){K0[] r=new K0[7];r[0]=new K0();r[1]=new K1();r[2]=new K2();r[3]=new K3();r[4]=new K4();r[5]=new K5();r[6]=new K6();"
            + "int i=0;while(i<7){print(r[i].f());print(r[i].g());i=i+1;}print(((K6)r[6]).h());print(1+(2+(3+r[6].g())));}}";
        ClassMill x = b.ran(text, 15, 0);
        b.printed(x, "nearest", 0, 0, 0, 0, 2, 2, 2, 2, 4, 14, 4, 14, 4, 14, 114, 20);
        // with others below it on the stack, in a method that is not the first
        prints(b, "A p=new A();p.x=5;A q=new A();q.x=7;print(1+(2*q.x)-p.x);", 10);
        String deep = "class A{int x;int g(int a,int c){return x*100+a*10+c;}int h(A o){return 1+(1+(1+o.g(2,3)))+g(4,5);}static void m(){A a=new A();a.x=6;A c=new A();c.x=7;print(9+a.h(c));}}";
        b.printed(b.ran(deep, 8, 2), deep, 9 + 3 + 723 + 645);
    }

    /** "All goes from the left to the right" */
    private static void fromTheLeft(Bench b) {
        prints(b, "int n=t(1)+t(2)*t(3)-(t(4)-t(5));print(n);", 1, 2, 3, 4, 5, 8);
        prints(b, "int[] i=new int[t(4)];i[t(1)]=t(2);print(i[t(1)]);", 4, 1, 2, 1, 2);
        prints(b, "boolean z=t(1)<t(2)==t(3)>t(4);print(z);", 1, 2, 3, 4, 0);
        prints(b, "A c=null;try{c.x=t(1);}catch(NullFault e){print(9);}", 1, 9);
        prints(b, "int[] i=null;try{i[t(1)]=t(2);}catch(NullFault e){print(9);}", 1, 2, 9);
        prints(b, "int n=1;n=n+t(n)+n;print(n);", 1, 3);
    }

    /** "the first HANDLER of its method that has the instruction": FROM has it, TO has it not */
    private static void handlersFromTo(Bench b) {
        // 0: 1, 1: 191, 2: 177 with a FRAME, 3: at the thrown 87, 4: 177
        int[] code = {1, 191, 177, 87, 4, 186, 177};
        int[][] rows = {{0, 0, 0, 1, 0, 3, 6}, {0, 0, 0, 2, 0, 3, 6}, {0, 1, 0, 2, 0, 3, 6}, {0, 2, 0, 3, 0, 3, 6}, {0, 1, 0, 7, 0, 3, 6}};
        boolean[] caught = {false, true, true, false, true};
        for (int i = 0; i < rows.length; i++) {
            ClassMill x = bytes(b, 11, 1, 0, code, rows[i], 2, 0, 2, 0, 0, 0, 3, 0, 1, 3, 6);
            x.run(10);
            b.due("state of " + i, x.look(0), caught[i] ? 2 : 3);
            b.due("prints of " + i, x.look(6), caught[i] ? 1 : 0);
        }
        // of a call: the place of the call itself
        Bench.Row row = new Bench.Row().put(74, 77, 12).text("A").put(3, 1).text("Object").put(3, 3).text("m").text("t").text("()V").put(4, 2, 6, 7);
        row.text("Fault").put(3, 9).text("IndexFault").put(3, 11);
        int size = row.put(2, 4, 0, 2).put(1, 5, 7, 1, 0, 0, 8).size();
        row.put(0, 184, 8, 177, 87, 5, 186, 177).put(1, 0, 0, 0, 1, 0, 4, 10).put(1, 0, 4, 0, 1, 3, 10).put(1, 6, 7, 1, 0, 0, 3, 187, 12, 191, 0, 0);
        for (int from = 0; from < 4; from++) {
            for (int to = from + 1; to < 5; to++) {
                ClassMill x = new ClassMill();
                b.due("load", Bench.load(x, row.bytes()), 8);
                b.due("patch", x.patch(8, size + 8 + 2, from), true);
                b.due("patch", x.patch(8, size + 8 + 4, to), true);
                boolean right = from != 2 && to != 2;
                b.due("verify of " + from + " " + to, x.verify(), right ? 0 : 8);
                if (right) {
                    x.start(8, 0);
                    x.run(20);
                    b.due("state of " + from + " " + to, x.look(0), from <= 1 && to > 1 ? 2 : 3);
                    b.due("class of " + from + " " + to, x.look(1), from <= 1 && to > 1 ? -1 : 3);
                }
            }
        }
    }

    /** ".. and whose CLASS it fits" */
    private static void handlersFirst(Bench b) {
        String[] classes = {"Fault", "NullFault", "IndexFault", "E", "F"};
        String[] thrown = {"new Fault()", "new NullFault()", "new IndexFault()", "new E()", "new F()"};
        String[] fits = {"10000", "11000", "10100", "10010", "10011"};
        for (int t = 0; t < thrown.length; t++) {
            for (int c = 0; c < classes.length; c++) {
                String text = "class E extends Fault{}class F extends E{}class A{static void m(){try{try{throw " + thrown[t] + ";}catch(" + classes[c]
                    + " e){print(1);}}catch(Fault e){print(2);}}}";
                b.printed(b.ran(text, 10, 0), text, fits[t].charAt(c) == '1' ? 1 : 2);
            }
        }
        prints(b, "try{try{throw null;}catch(Fault e){print(1);throw e;}}catch(NullFault e){print(2);}", 1, 2);
        prints(b, "try{throw null;}catch(NullFault e){print(1);}print(2);try{print(3);}catch(Fault e){print(4);}print(5);", 1, 2, 3, 5);
        // of two that have it and fit, the first; if that one fits not, the second
        int[] code = {0, 1, 191, 87, 4, 186, 177, 87, 5, 186, 177};
        int[] frames = {2, 0, 3, 0, 1, 3, 6, 0, 7, 0, 1, 3, 6};
        int[][] rows = {{0, 0, 0, 3, 0, 3, 6, 0, 0, 0, 3, 0, 7, 6}, {0, 0, 0, 3, 0, 7, 6, 0, 0, 0, 3, 0, 3, 6}, {0, 0, 0, 2, 0, 3, 6, 0, 2, 0, 3, 0, 7, 6}};
        int[] want = {1, 2, 2};
        for (int i = 0; i < rows.length; i++) {
            ClassMill x = bytes(b, 11, 1, 0, code, rows[i], frames);
            x.run(20);
            b.due("the first " + i, x.out(0), want[i]);
        }
    }

    /** "without one the method ends and it goes on so at the call" */
    private static void handlersUp(Bench b) {
        String text = "class A{static int f(int n){if(n==0)throw new SizeFault();return 1+f(n-1);}static void g(int n){try{print(f(n));}catch(NullFault e){print(8);}}"
            + "static void m(){try{g(5);print(7);}catch(SizeFault e){print(9);}}static void u(){g(5);}}";
        ClassMill x = b.ran(text, 8, 2);
        b.printed(x, text, 9);
        b.due("state", x.look(0), 2);
        ClassMill y = b.ran(text, 8, 3);
        b.printed(y, text);
        b.due("state", y.look(0), 3);
        b.due("class", y.look(1), 6);
        b.due("methods", y.look(5), 0);
        // through all sixty
        String deep = "class A{static int f(int n){if(n==0)throw null;return 1+f(n-1);}static void m(){try{print(f(58));}catch(NullFault e){print(9);}}static void u(){print(f(58));}}";
        ClassMill z = b.ran(deep, 8, 1);
        b.printed(z, deep, 9);
        z.start(8, 2);
        z.run(20000);
        b.due("state", z.look(0) * 10 + z.look(1), 32);
        b.due("methods", z.look(5), 0);
    }

    /** "the stack is that alone" */
    private static void stackIsThatAlone(Bench b) {
        // 0: 4, 1: 5, 2: 1, 3: 191 with three on the stack; 4: at the thrown
        ClassMill x = bytes(b, 11, 3, 0, new int[] {4, 5, 1, 191, 87, 177}, new int[] {0, 0, 0, 4, 0, 4, 6}, 1, 0, 4, 0, 1, 3, 6);
        x.run(3);
        b.due("on the stack", x.look(10), 3);
        x.run(1);
        b.due("the thrown alone", x.look(10), 1);
        b.due("place", x.look(9), 4);
        x.run(1);
        b.due("none", x.look(10), 0);
        x.run(1);
        b.due("state", x.look(0), 2);
        prints(b, "int k=0;while(k<30){try{print(1+(2+(3+4/(k-k))));}catch(ArithFault e){k=k+1;}}print(k);", 30);
        String text = "class A{static int t(int n){return n/0;}static void m(){int k=0;while(k<30){try{print(1+(2+(3+t(k))));}catch(ArithFault e){k=k+1;}}print(k);}}";
        b.printed(b.ran(text, 8, 1), text, 30);
    }

    /** "THROWN by the machine, a new object of it" */
    private static void thrownIsNew(Bench b) {
        String text = "class A{static Fault f(){try{print(1/0);}catch(Fault e){return e;}return null;}static void m(){Fault a=f();Fault c=f();print(a==c);print(a instanceof ArithFault);"
            + "Fault d=null;try{throw a;}catch(Fault e){d=e;}print(a==d);}}";
        ClassMill x = b.ran(text, 8, 1);
        b.printed(x, text, 0, 1, 1);
        b.due("two were made", x.look(3) * 10 + x.look(4), 20);
    }

    /** "ROOM: more than 2,000 objects and arrays" */
    private static void roomForObjects(Bench b) {
        String[] made = {"new A().f();", "int[] i=new int[0];", "A[] i=new A[0];", "try{print(1/0);}catch(Fault e){}"};
        for (String one : made) {
            String text = "class A{void f(){}static void a(){int n=0;while(n<2000){" + one + "n=n+1;}print(n);}static void c(){int n=0;while(n<2001){" + one + "n=n+1;}print(n);}}";
            ClassMill x = b.ran(text, 8, 1);
            b.due("2000 of " + one, x.look(0), 2);
            b.due("2000 of " + one, x.look(3), 2000);
            b.due("none has a field", x.look(4), 0);
            x.start(8, 2);
            while (x.look(0) == 1) {
                x.run(20000);
            }
            b.due("2001 of " + one, x.look(0), 4);
            b.due("2001 of " + one, x.look(3), 2000);
            b.due("2001 of " + one, x.look(1), -1);
            b.due("nothing printed", x.look(6), 0);
        }
    }

    /** "20,000 fields and elements in a run" */
    private static void roomForCells(Bench b) {
        int[][] rows = {{20000, 0}, {20001, 1}, {19999, 0}, {MOST, 1}, {65536, 1}, {2147463647, 1}};
        for (int[] row : rows) {
            for (String type : new String[] {"int", "A"}) {
                ClassMill x = b.ran("class A{static void m(){" + type + "[] i=new " + type + "[" + row[0] + "];print(i.length);}}", 8, 0);
                b.due("state of " + row[0], x.look(0), row[1] == 1 ? 4 : 2);
                b.due("made of " + row[0], x.look(4), row[1] == 1 ? 0 : row[0]);
                b.due("arrays of " + row[0], x.look(3), row[1] == 1 ? 0 : 1);
                b.due("prints of " + row[0], x.look(6), row[1] == 1 ? 0 : 1);
            }
        }
        // in all: elements and fields together
        int[] sizes = {19995, 19996, 19997, 19998};
        for (int size : sizes) {
            ClassMill x = b.ran("class A{int x;int y;static void m(){int[] i=new int[" + size + "];new B().f();print(1);}void f(){}}class B extends A{int z;}", 8, 0);
            boolean fits = size + 3 <= 20000;
            b.due("state of " + size, x.look(0), fits ? 2 : 4);
            b.due("made of " + size, x.look(4), fits ? size + 3 : size);
            b.due("objects of " + size, x.look(3), fits ? 2 : 1);
        }
        // without any room left, what has no fields still has
        ClassMill x = b.ran("class A{static void m(){int[] i=new int[20000];i[19999]=7;new A().f();int[] j=new int[0];print(i[19999]);j=new int[1];print(2);}void f(){}}", 8, 0);
        b.due("state", x.look(0), 4);
        b.due("objects", x.look(3), 3);
        b.due("cells", x.look(4), 20000);
        b.printed(x, "no room left", 7);
    }

    private static void roomForFaults(Bench b) {
        String[] faults = {"print(1/0);", "throw null;", "A a=null;a.f();", "int[] k=new int[-1];", "Object o=i;A a=(A)o;", "print(i[-1]);"};
        for (String fault : faults) {
            String text = "class A{void f(){}static void m(){int[] i=new int[1];int n=1;while(n<2000){new A().f();n=n+1;}try{" + fault + "}catch(Fault e){print(1);}}}";
            ClassMill x = b.ran(text, 8, 1);
            b.due("state of " + fault, x.look(0), 4);
            b.due("objects of " + fault, x.look(3), 2000);
            b.due("not caught " + fault, x.look(6), 0);
        }
        // what was made before can still be thrown
        String text = "class A{void f(){}static void m(){Fault t=new Fault();int n=1;while(n<2000){new A().f();n=n+1;}try{throw t;}catch(Fault e){print(1);}}}";
        b.printed(b.ran(text, 8, 1), text, 1);
    }

    /** "it ends there (as 4)" */
    private static void roomEndsThere(Bench b) {
        ClassMill x = b.brought("class A{static void f(){int[] i=new int[20001];}static void m(){try{f();}catch(Fault e){print(1);}}}");
        x.start(8, 1);
        // 0, 184 and in f 18, 188
        b.due("run", x.run(20000), 4);
        seen(b, x, "of ROOM", 4, -1, 4, 0, 0, 2, 0, -1, -1, -1, -1);
        b.due("run", x.run(20000), 0);
        b.due("steps", x.look(2), 4);
        b.due("verify", x.verify(), 0);
        b.due("stays", x.look(0), 4);
        b.due("start", x.start(8, 1), true);
        b.due("run", x.run(3), 3);
        b.due("goes on", x.look(0), 1);
    }

    /** "DEPTH: a 61st method at once (as 5)" */
    private static void depths(Bench b) {
        String text = "class A{static int f(int n){if(n==0)return 0;return 1+f(n-1);}int g(int n){return n==0?0:1+g(n-1);}"
            + "static void a(){print(f(58));}static void c(){print(f(59));}static void d(){print(new A().g(58));}static void e(){print(new A().g(59));}"
            + "static void h(){int k=0;while(k<5){print(f(58));k=k+1;}}static void i(){try{print(f(59));}catch(Fault x){print(1);}}}";
        int[] methods = {2, 3, 4, 5, 6, 7};
        int[] states = {2, 5, 2, 5, 2, 5};
        int[] prints = {1, 0, 1, 0, 5, 0};
        for (int i = 0; i < methods.length; i++) {
            ClassMill x = b.ran(text, 8, methods[i]);
            b.due("state of " + methods[i], x.look(0), states[i]);
            b.due("prints of " + methods[i], x.look(6), prints[i]);
            b.due("methods of " + methods[i], x.look(5), states[i] == 5 ? 60 : 0);
            b.due("given by " + methods[i], x.look(1), -1);
            b.due("value of " + methods[i], x.out(0), states[i] == 2 ? 58 : 0);
            b.due("run", x.run(1), 0);
        }
        ClassMill x = b.brought("class A{static void m(){m();}}");
        x.start(8, 0);
        b.due("59 calls", x.run(59), 59);
        b.due("60 methods", x.look(5) * 10 + x.look(0), 601);
        b.due("the next", x.run(5), 1);
        b.due("60 methods", x.look(5) * 10 + x.look(0), 605);
        // null is looked at first
        String nulls = "class A{A a;void f(){a.f();}int g(int n){if(n>0)return g(n-1);f();return 1;}static void m(){try{print(new A().g(57));}catch(NullFault e){print(9);}}}";
        b.printed(b.ran(nulls, 8, 2), nulls, 9);
    }

    /** "6 how many were printed (also those not kept)"; "(the first 1,000 are kept; true 1, false 0)" */
    private static void printed(Bench b) {
        for (int many : new int[] {0, 1, 999, 1000, 1001, 1500}) {
            ClassMill x = b.ran("class A{static void m(){int n=0;while(n<" + many + "){n=n+1;print(-n);}}}", 8, 0);
            b.due("look(6) of " + many, x.look(6), many);
            for (int i : new int[] {0, 1, 998, 999, 1000, 1001, 1499}) {
                b.due("out(" + i + ") of " + many, x.out(i), i < many && i < 1000 ? -i - 1 : 0);
            }
        }
        prints(b, "print(true);print(false);print(1==1);print(1!=1);print(2147483647);print(-2147483647-1);print(0);", 1, 0, 1, 0, MOST, LEAST, 0);
    }

    /** "i from 0 on ..; 0 without" */
    private static void outOfOthers(Bench b) {
        ClassMill x = new ClassMill();
        int[] others = {-1, 0, 1, 999, 1000, LEAST, MOST};
        for (int i : others) {
            b.due("out(" + i + ") of none", x.out(i), 0);
        }
        ClassMill y = b.brought("class A{static void m(){print(7);print(8);throw null;}}");
        y.start(8, 0);
        b.due("not yet", y.out(0), 0);
        y.run(2);
        b.due("the first", y.out(0), 7);
        b.due("not yet", y.out(1), 0);
        y.run(10);
        b.due("the second", y.out(1), 8);
        b.due("behind", y.out(2), 0);
        b.due("below", y.out(-1), 0);
        b.due("least", y.out(LEAST), 0);
        b.due("most", y.out(MOST), 0);
        b.due("it was thrown", y.look(0), 3);
        y.start(8, 0);
        b.due("a new run", y.out(0), 0);
        b.due("a new run", y.look(6), 0);
    }
}
