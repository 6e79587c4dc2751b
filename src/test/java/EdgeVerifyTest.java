import java.util.Arrays;

/** The boundary sentences of section 5 and of promises 11 and 12. */
public final class EdgeVerifyTest {
    private static final int[] NONE = {};
    /** Types as a FRAME tells them; the CLASSES' numbers are those of the constants below. */
    private static final int[] TOP = {0};
    private static final int[] INT = {1};
    private static final int[] NULL = {2};
    private static final int[] A = {3, 2};
    private static final int[] OBJECT = {3, 4};
    private static final int[] FAULT = {3, 6};
    private static final int[] NULL_FAULT = {3, 29};
    private static final int[] INTS = {3, 8};
    private static final int[] AS = {3, 10};
    private static final int[] OBJECTS = {3, 12};
    private static final int[][] ALL = {TOP, INT, NULL, A, OBJECT, FAULT, NULL_FAULT, INTS, AS, OBJECTS};

    public static void main(String[] args) {
        Bench b = new Bench("EdgeVerifyTest");
        nothing(b);
        whereOf(b);
        whatIsThere(b);
        noEnd(b);
        ofOneName(b);
        ofAnotherKind(b);
        classByClass(b);
        noneOfThese(b);
        jumpsTo(b);
        handlersAt(b);
        handlersClass(b);
        framesAt(b);
        framesRoom(b);
        framesFull(b);
        fromNowhere(b);
        theEndIsReached(b);
        constantsOfInts(b);
        constantsOfClasses(b);
        constantsOfFields(b);
        constantsOfMethods(b);
        constant1(b);
        membersInARow(b);
        localsBelow(b);
        localsGiven(b);
        localsOfTheNext(b);
        stackNotEnough(b);
        fits(b);
        wantsNumbers(b);
        wantsArrays(b);
        wantsObjects(b);
        wantsMembers(b);
        wantsJumps(b);
        wantsReturns(b);
        comes(b);
        frameIsTheState(b);
        handlersFromTo(b);
        handlersFrame(b);
        jumpsFrame(b);
        inThisOrder(b);
        runStays(b);
        b.end();
    }

    private static Bench.Row constants(String kind) {
        Bench.Row row = new Bench.Row().put(74, 77, 34).text("A").put(3, 1).text("Object").put(3, 3).text("Fault").put(3, 5).text("[I").put(3, 7);
        row.text("[LA;").put(3, 9).text("[LObject;").put(3, 11).put(2, 0, 0, 0, 7).text("x").text("I").put(4, 2, 14, 15).text("r").text("LA;").put(4, 2, 17, 18);
        row.text("f").text("(ILA;)I").put(4, 2, 20, 21).text("g").text("(Z)LA;").put(4, 2, 23, 24).text("m").text(kind).text("NullFault").put(3, 28);
        return row.text("Gone").put(3, 30).text("v").text("(LObject;[I[LA;)V").put(4, 2, 32, 33);
    }

    /** Class A with x and r, the method m as told, and behind it f, g (static) and v (static). */
    private static byte[] image(String kind, int fixed, int stack, int locals, int[] code, int[] handlers, int[] frames) {
        Bench.Row row = constants(kind).put(2, 4, 2, 14, 15, 17, 18, 4);
        row.put(fixed, 26, 27, stack, locals).pair(code.length).put(code).put(handlers.length / 7).put(handlers).put(frames);
        row.put(0, 20, 21, 1, 3, 0, 2, 1, 191, 0, 0).put(1, 23, 24, 1, 1, 0, 2, 1, 191, 0, 0).put(1, 32, 33, 0, 3, 0, 1, 177, 0, 0);
        return row.bytes();
    }

    private static void told(Bench b, String what, byte[] row, int number, int place) {
        ClassMill x = new ClassMill();
        b.due("load: " + what, Bench.load(x, row), 8);
        b.due("verify: " + what, x.verify(), number);
        b.due("verified: " + what, x.look(12), number == 0 ? 1 : 0);
        b.due("class: " + what, x.where(0), number == 0 ? -1 : 8);
        b.due("method: " + what, x.where(1), number == 0 ? -1 : 0);
        b.due("place: " + what, x.where(2), number == 0 ? -1 : place);
    }

    private static int[] row(int... values) {
        return values;
    }

    private static int[] join(int[]... rows) {
        int[] all = new int[0];
        for (int[] row : rows) {
            int from = all.length;
            all = Arrays.copyOf(all, from + row.length);
            System.arraycopy(row, 0, all, from, row.length);
        }
        return all;
    }

    private static int[] frame(int place, int[][] locals, int[][] stack) {
        return join(row(place >> 8, place & 255, locals.length), join(locals), row(stack.length), join(stack));
    }

    private static int[] frames(int[]... all) {
        return join(row(all.length), join(all));
    }

    /** A static method ()V with three on its stack and three locals. */
    private static void code(Bench b, int number, int place, int... code) {
        told(b, "code " + Arrays.toString(code), image("()V", 1, 3, 3, code, NONE, frames()), number, place);
    }

    private static void framed(Bench b, int number, int place, int[] code, int[]... all) {
        told(b, "code " + Arrays.toString(code) + " " + Arrays.toString(frames(all)), image("()V", 1, 3, 3, code, NONE, frames(all)), number, place);
    }

    private static byte[] plain(String name, String above) {
        return new Bench.Row().put(74, 77, 4).text(name).put(3, 1).text(above).put(3, 3).put(2, 4, 0, 0).bytes();
    }

    private static byte[] field(String name, String above, String kind) {
        return new Bench.Row().put(74, 77, 6).text(name).put(3, 1).text(above).put(3, 3).text("x").text(kind).put(2, 4, 1, 5, 6, 0).bytes();
    }

    private static byte[] method(String name, String above, String kind, int fixed) {
        return new Bench.Row().put(74, 77, 6).text(name).put(3, 1).text(above).put(3, 3).text("m").text(kind)
            .put(2, 4, 0, 1, fixed, 5, 6, 1, 7, 0, 2, 1, 191, 0, 0).bytes();
    }

    private static void space(Bench b, int number, int c, byte[]... rows) {
        ClassMill x = new ClassMill();
        for (int k = 0; k < rows.length; k++) {
            b.due("load " + k, Bench.load(x, rows[k]), 8 + k);
        }
        b.due("verify of " + rows.length, x.verify(), number);
        b.due("look(12)", x.look(12), number == 0 ? 1 : 0);
        b.due("where(0)", x.where(0), number == 0 ? -1 : c);
        b.due("where(1)", x.where(1), -1);
        b.due("where(2)", x.where(2), -1);
    }

    /** "The SPACE is VERIFIED: 0 ..", be there nothing in it. */
    private static void nothing(Bench b) {
        ClassMill x = new ClassMill();
        b.due("verify", x.verify(), 0);
        b.due("look(12)", x.look(12), 1);
        b.due("again", x.verify(), 0);
        b.due("start", x.start(0, 0), false);
        space(b, 0, 0, plain("A", "Object"));
        space(b, 0, 0, plain("A", "Object"), plain("B", "A"), plain("C", "B"), plain("D", "C"), plain("E", "D"), plain("F", "E"), plain("G", "F"), plain("H", "G"));
    }

    /** "Of the latest verify() that told a number ..; NONE for another what, or without one." */
    private static void whereOf(Bench b) {
        ClassMill x = new ClassMill();
        int[] others = {-1, 3, 4, Integer.MAX_VALUE, Integer.MIN_VALUE};
        for (int what = -1; what < 4; what++) {
            b.due("where(" + what + ") before any", x.where(what), -1);
        }
        x.verify();
        for (int what = -1; what < 4; what++) {
            b.due("where(" + what + ") behind 0", x.where(what), -1);
        }
        Bench.load(x, plain("B", "Object"));
        Bench.load(x, image("()V", 1, 1, 1, row(4, 186, 177, 9), NONE, frames()));
        b.due("verify", x.verify(), 6);
        b.due("class", x.where(0), 9);
        b.due("method", x.where(1), 0);
        b.due("place", x.where(2), 3);
        for (int what : others) {
            b.due("where(" + what + ")", x.where(what), -1);
        }
        Bench.load(x, plain("C", "Gone"));
        b.due("still of the latest verify()", x.where(2), 3);
        b.due("verify", x.verify(), 3);
        b.due("class", x.where(0), 10);
        b.due("method of 3", x.where(1), -1);
        b.due("place of 3", x.where(2), -1);
        x.clear();
        b.due("behind clear", x.where(0), 10);
        b.due("verify", x.verify(), 0);
        b.due("behind 0", x.where(0), 10);
        b.due("behind 0", x.where(1), -1);
    }

    /** "3 what it extends, or a kind of its fields and methods names, isn't there" */
    private static void whatIsThere(Bench b) {
        String[] there = {"Object", "Fault", "NullFault", "IndexFault", "ArithFault", "CastFault", "SizeFault", "StoreFault", "A", "Z"};
        for (String name : there) {
            space(b, 0, 0, field("A", "Object", "L" + name + ";"), plain("Z", "Object"));
            space(b, 0, 0, method("A", "Object", "(L" + name + ";)[L" + name + ";", 1), plain("Z", "Object"));
            if (!name.equals("A")) {
                space(b, 0, 0, plain("A", name), plain("Z", "Object"));
            }
        }
        String[] gone = {"Gone", "Objec", "Object1", "object", "B", "AA", "Faul", "int", "I"};
        for (String name : gone) {
            space(b, 3, 8, plain("A", name));
            space(b, 3, 8, field("A", "Object", "L" + name + ";"));
            space(b, 3, 8, field("A", "Object", "[L" + name + ";"));
            space(b, 3, 8, method("A", "Object", "()L" + name + ";", 0));
            space(b, 3, 8, method("A", "Object", "()[L" + name + ";", 1));
        }
        // each of six parameters
        for (int p = 0; p < 6; p++) {
            StringBuilder kind = new StringBuilder("(");
            for (int i = 0; i < 6; i++) {
                kind.append(i == p ? "LB;" : "I");
            }
            space(b, 3, 8, method("A", "Object", kind + ")V", 0));
            space(b, 0, 0, method("A", "Object", kind + ")V", 0), plain("B", "Object"));
            space(b, 3, 9, plain("B", "Object"), method("A", "B", kind.toString().replace("LB;", "[LC;") + ")LA;", 1));
        }
        // the last of twelve fields
        Bench.Row fields = new Bench.Row().put(74, 77, 19).text("A").put(3, 1).text("Object").put(3, 3).text("I").text("LB;").text("[I");
        for (int f = 0; f < 12; f++) {
            fields.text("f" + f);
        }
        fields.put(2, 4, 12);
        for (int f = 0; f < 12; f++) {
            fields.put(8 + f, f == 11 ? 6 : 5 + f % 2 * 2);
        }
        space(b, 3, 8, fields.put(0).bytes());
        space(b, 0, 0, fields.bytes(), plain("B", "A"));
    }

    /** "or going on by extends one comes to no end" */
    private static void noEnd(Bench b) {
        space(b, 3, 8, plain("A", "A"));
        space(b, 3, 9, plain("B", "Object"), plain("A", "A"));
        space(b, 3, 8, plain("A", "B"), plain("B", "A"));
        space(b, 3, 9, plain("C", "Object"), plain("A", "B"), plain("B", "A"));
        // one that only comes to a circle
        space(b, 3, 8, plain("A", "B"), plain("B", "B"));
        space(b, 3, 8, plain("A", "H"), plain("B", "A"), plain("C", "B"), plain("D", "C"), plain("E", "D"), plain("F", "E"), plain("G", "F"), plain("H", "G"));
        space(b, 0, 0, plain("A", "Object"), plain("B", "A"), plain("C", "B"), plain("D", "C"), plain("E", "D"), plain("F", "E"), plain("G", "F"), plain("H", "G"));
        space(b, 0, 0, plain("H", "G"), plain("G", "F"), plain("F", "E"), plain("E", "D"), plain("D", "C"), plain("C", "B"), plain("B", "A"), plain("A", "Fault"));
        // what comes to one that isn't there comes to an end: the one that extends it is told
        space(b, 3, 9, plain("A", "B"), plain("B", "Gone"));
    }

    private static byte[] named(int fields, int sameField, int methods, int sameMethod) {
        Bench.Row row = new Bench.Row().put(74, 77, 18).text("A").put(3, 1).text("Object").put(3, 3).text("I").text("()V");
        for (int n = 0; n < 12; n++) {
            row.text("n" + n);
        }
        row.put(2, 4, fields);
        for (int f = 0; f < fields; f++) {
            row.put(f == fields - 1 && sameField >= 0 ? 7 + sameField : 7 + f, 5);
        }
        row.put(methods);
        for (int m = 0; m < methods; m++) {
            row.put(1, m == methods - 1 && sameMethod >= 0 ? 7 + sameMethod : 7 + m, 6, 0, 0, 0, 1, 177, 0, 0);
        }
        return row.bytes();
    }

    /** "4 two fields, or two methods, of one name" */
    private static void ofOneName(Bench b) {
        space(b, 0, 0, named(12, -1, 12, -1));
        space(b, 0, 0, named(0, -1, 0, -1));
        for (int same = 0; same < 11; same++) {
            space(b, 4, 8, named(12, same, 0, -1));
            space(b, 4, 8, named(0, -1, 12, same));
            space(b, 4, 8, named(12, same, 12, same));
        }
        space(b, 4, 8, named(2, 0, 0, -1));
        space(b, 4, 8, named(1, -1, 2, 0));
        // one name in two TEXTS, and of two kinds
        Bench.Row row = new Bench.Row().put(74, 77, 10).text("A").put(3, 1).text("Object").put(3, 3).text("n").text("n").text("I").text("Z").text("()V").text("()I");
        byte[] fields = new Bench.Row().put(74, 77, 8).text("A").put(3, 1).text("Object").put(3, 3).text("n").text("n").text("I").text("Z").put(2, 4, 2, 5, 7, 6, 8, 0).bytes();
        space(b, 4, 8, fields);
        space(b, 4, 8, row.put(2, 4, 1, 5, 7, 2, 1, 5, 9, 0, 0, 0, 1, 177, 0, 0, 1, 6, 10, 1, 0, 0, 2, 4, 172, 0, 0).bytes());
        // what one extends may have it, too
        space(b, 0, 0, field("A", "Object", "I"), field("B", "A", "I"), field("C", "B", "Z"));
    }

    /** "5 a method that is named as one of what it extends (the nearest), of another kind, or if one of them is static" */
    private static void ofAnotherKind(Bench b) {
        space(b, 0, 0, method("A", "Object", "(IZ)V", 0), method("B", "A", "(IZ)V", 0));
        String[] others = {"(IZ)I", "(I)V", "(IZZ)V", "(II)V", "(ZI)V", "()V"};
        for (String kind : others) {
            space(b, 5, 9, method("A", "Object", "(IZ)V", 0), method("B", "A", kind, 0));
            space(b, 5, 8, method("B", "A", kind, 0), method("A", "Object", "(IZ)V", 0));
        }
        space(b, 5, 9, method("A", "Object", "()V", 1), method("B", "A", "()V", 0));
        space(b, 5, 9, method("A", "Object", "()V", 0), method("B", "A", "()V", 1));
        space(b, 5, 9, method("A", "Object", "()V", 1), method("B", "A", "()V", 1));
        space(b, 5, 9, method("A", "Object", "(LA;)V", 0), method("B", "A", "(LB;)V", 0));
        space(b, 5, 10, method("A", "Object", "()V", 0), plain("B", "A"), method("C", "B", "()I", 0));
        space(b, 5, 9, method("A", "Object", "()V", 0), method("B", "A", "()I", 0), method("C", "B", "()I", 0));
        // the nearest: C's is as B's, though not as A's; B's is told
        space(b, 5, 10, method("C", "B", "()I", 0), method("A", "Object", "()V", 0), method("B", "A", "()I", 0));
        space(b, 5, 8, method("C", "B", "()V", 0), method("A", "Object", "()V", 0), method("B", "A", "()I", 0));
        space(b, 0, 0, method("A", "Object", "()V", 0), method("B", "Object", "()I", 1), method("C", "Fault", "(I)I", 0));
        space(b, 0, 0, field("A", "Object", "I"), method("B", "A", "()V", 0));
        // the last of twelve methods
        ClassMill x = new ClassMill();
        Bench.load(x, named(0, -1, 12, -1));
        byte[] other = new Bench.Row().put(74, 77, 6).text("B").put(3, 1).text("A").put(3, 3).text("n11").text("()V").put(2, 4, 0, 1, 0, 5, 6, 0, 1, 0, 1, 177, 0, 0).bytes();
        Bench.load(x, other);
        b.due("the last of twelve", x.verify(), 5);
    }

    /** "First class by class (all three of one ahead of the next one's)", then the methods. */
    private static void classByClass(Bench b) {
        byte[] four = new Bench.Row().put(74, 77, 6).text("A").put(3, 1).text("Object").put(3, 3).text("x").text("I").put(2, 4, 2, 5, 6, 5, 6, 0).bytes();
        byte[] three = plain("B", "Gone");
        space(b, 4, 8, four, three);
        space(b, 3, 8, three, four);
        space(b, 5, 9, method("C", "Object", "()V", 0), method("D", "C", "()I", 0), four, three);
        space(b, 3, 8, new Bench.Row().put(74, 77, 7).text("A").put(3, 1).text("Object").put(3, 3).text("x").text("LB;").text("I").put(2, 4, 2, 5, 7, 5, 6, 0).bytes());
        byte[] wrong = image("()V", 1, 0, 0, row(9), NONE, frames());
        space(b, 3, 9, wrong, three);
        ClassMill x = new ClassMill();
        Bench.load(x, plain("Y", "Object"));
        Bench.load(x, wrong);
        Bench.load(x, new Bench.Row().put(74, 77, 6).text("Z").put(3, 1).text("Object").put(3, 3).text("m").text("()V").put(2, 4, 0, 1, 1, 5, 6, 0, 0, 0, 1, 9, 0, 0).bytes());
        b.due("of two classes the first", x.verify(), 6);
        b.due("class", x.where(0), 9);
        b.due("method", x.where(1), 0);
        // 12 of the first method ahead of 6 of the second
        Bench.Row two = new Bench.Row().put(74, 77, 7).text("Z").put(3, 1).text("Object").put(3, 3).text("m").text("()V").text("n").put(2, 4, 0, 2);
        ClassMill y = new ClassMill();
        Bench.load(y, two.put(1, 5, 6, 0, 0, 0, 2, 87, 177, 0, 0).put(1, 7, 6, 0, 0, 0, 1, 9, 0, 0).bytes());
        b.due("of two methods the first", y.verify(), 12);
        b.due("method", y.where(1), 0);
        b.due("patch", y.patch(8, y.type(8, 3) - 14, 0), true);
        b.due("the second", y.verify(), 6);
        b.due("method", y.where(1), 1);
    }

    private static final int[] ONE = {0, 1, 2, 3, 4, 5, 6, 7, 8, 46, 50, 79, 83, 87, 89, 96, 100, 104, 108, 112, 116, 120, 122, 124, 126, 128, 130, 172, 176, 177, 186, 190, 191};
    private static final int[] TWO = {16, 18, 21, 25, 54, 58, 180, 181, 182, 184, 187, 188, 189, 192, 193};
    private static final int[] THREE = {153, 154, 159, 160, 161, 162, 163, 164, 165, 166, 167};

    private static int widthOf(int op) {
        int width = 0;
        for (int other : ONE) {
            width = other == op ? 1 : width;
        }
        for (int other : TWO) {
            width = other == op ? 2 : width;
        }
        for (int other : THREE) {
            width = other == op ? 3 : width;
        }
        return width;
    }

    private static void isSix(Bench b, boolean six, int place, int... code) {
        ClassMill x = new ClassMill();
        Bench.load(x, image("()V", 1, 3, 3, code, NONE, frames()));
        b.due("6 for " + Arrays.toString(code), x.verify() == 6, six);
        b.due("place of " + Arrays.toString(code), !six || x.where(2) == place, true);
    }

    /** "6 CODE from 0 on: the first instruction that is none of these or isn't whole" */
    private static void noneOfThese(Bench b) {
        for (int op = 0; op < 256; op++) {
            int width = widthOf(op);
            isSix(b, width != 1, 0, op);
            isSix(b, width == 0 || width > 1, 1, 0, op);
            isSix(b, width == 0 || width > 2, 1, 0, op, 0);
            isSix(b, width == 0, 1, 0, op, 0, 0);
            isSix(b, width == 0, 3, 16, 9, 0, op, 0, 0);
        }
        // what stands behind an instruction's own byte is no instruction
        isSix(b, false, 0, 16, 9, 87, 177);
        isSix(b, true, 3, 16, 9, 87, 9);
        isSix(b, true, 0, 9, 9);
        // reached or not
        isSix(b, true, 1, 177, 255);
        // the last of 1,500
        int[] longest = new int[1500];
        longest[1499] = 177;
        code(b, 0, 0, longest);
        longest[1499] = 9;
        code(b, 6, 1499, longest);
        longest[1499] = 16;
        code(b, 6, 1499, longest);
    }

    /** "7 a jump (the first) to where no instruction begins" */
    private static void jumpsTo(Bench b) {
        framed(b, 0, 0, row(167, 0, 0), frame(0, types(), types()));
        framed(b, 0, 0, row(167, 0, 3, 177), frame(3, types(), types()));
        framed(b, 0, 0, row(0, 167, 255, 255), frame(0, types(), types()));
        code(b, 7, 0, 167, 0, 1, 177);
        code(b, 7, 0, 167, 0, 2, 177);
        code(b, 7, 0, 167, 0, 4, 177);
        code(b, 7, 0, 167, 0, 5, 177);
        code(b, 7, 0, 167, 255, 255, 177);
        code(b, 7, 1, 0, 167, 255, 254, 177);
        code(b, 7, 0, 167, 127, 255, 177);
        code(b, 7, 0, 167, 128, 0, 177);
        code(b, 7, 0, 167, 0, 4, 16, 7, 177);
        for (int op : THREE) {
            code(b, 7, 0, op, 0, 4, 177);
            code(b, 7, 0, op, 0, 1, 177);
        }
        // the first of two, though it is reached from nowhere
        code(b, 7, 1, 177, 167, 0, 1, 167, 0, 1);
        code(b, 7, 4, 177, 167, 0, 3, 167, 0, 1);
        // 6 of the whole CODE first
        code(b, 6, 3, 167, 0, 1, 9);
        // from the last of 1,500 to the first, and one further
        int[] longest = new int[1500];
        longest[1497] = 167;
        longest[1498] = -1497 >> 8 & 255;
        longest[1499] = -1497 & 255;
        framed(b, 0, 0, longest, frame(0, types(), types()));
        longest[1499]--;
        code(b, 7, 1497, longest);
    }

    private static int[][] types(int[]... types) {
        return types;
    }

    private static void handler(Bench b, int number, int place, int... handlers) {
        // 0: nothing, 1: 16 7, 3: 186, 4: 177, 5: at what is thrown, 6: 177
        int[] code = {0, 16, 7, 186, 177, 87, 177};
        int[] frames = frames(frame(5, types(), types(FAULT)));
        told(b, "HANDLERS " + Arrays.toString(handlers), image("()V", 1, 1, 0, code, handlers, frames), number, place);
    }

    /** "8 a HANDLER (the place told is its number): FROM, AT no instruction's, TO neither that nor the end, FROM not below TO; no FRAME at AT" */
    private static void handlersAt(Bench b) {
        int[] begins = {0, 1, 3, 4, 5, 6};
        for (int from = 0; from < 9; from++) {
            for (int to = 0; to < 9; to++) {
                boolean right = Arrays.binarySearch(begins, from) >= 0 && (Arrays.binarySearch(begins, to) >= 0 || to == 7) && from < to;
                // around its own AT the thrown alone is on the stack, which is no matter for what is thrown again
                handler(b, right ? 0 : 8, 0, 0, from, 0, to, 0, 5, 6);
            }
        }
        for (int at = 0; at < 9; at++) {
            handler(b, at == 5 ? 0 : 8, 0, 0, 0, 0, 4, 0, at, 6);
        }
        handler(b, 8, 0, 255, 255, 0, 4, 0, 5, 6);
        handler(b, 8, 0, 0, 0, 255, 255, 0, 5, 6);
        handler(b, 8, 0, 0, 0, 0, 4, 255, 255, 6);
        handler(b, 8, 0, 1, 0, 1, 4, 1, 5, 6);
        // the number of the first that is so
        int[] good = {0, 0, 0, 4, 0, 5, 6};
        int[] bad = {0, 4, 0, 4, 0, 5, 6};
        handler(b, 8, 1, join(good, bad));
        handler(b, 8, 0, join(bad, good));
        int[] nineteen = NONE;
        for (int h = 0; h < 19; h++) {
            nineteen = join(nineteen, good);
        }
        handler(b, 0, 0, join(nineteen, good));
        handler(b, 8, 19, join(nineteen, bad));
    }

    /** "a CLASS that isn't there or fits no Fault" */
    private static void handlersClass(Bench b) {
        handler(b, 0, 0, 0, 0, 0, 4, 0, 5, 6);
        handler(b, 0, 0, 0, 0, 0, 4, 0, 5, 29);
        handler(b, 8, 0, 0, 0, 0, 4, 0, 5, 2);
        handler(b, 8, 0, 0, 0, 0, 4, 0, 5, 4);
        handler(b, 8, 0, 0, 0, 0, 4, 0, 5, 8);
        handler(b, 8, 0, 0, 0, 0, 4, 0, 5, 10);
        handler(b, 8, 0, 0, 0, 0, 4, 0, 5, 31);
    }

    /** "9 a FRAME (its number): a PLACE that is no instruction's or not above the one before" */
    private static void framesAt(Bench b) {
        int[] code = {0, 16, 7, 87, 177};
        for (int place = 0; place < 8; place++) {
            boolean begins = place == 0 || place == 1 || place == 3 || place == 4;
            int[][] stack = place == 3 ? types(INT) : types();
            framed(b, begins ? 0 : 9, 0, code, frame(place, types(), stack));
        }
        framed(b, 9, 0, code, frame(65535, types(), types()));
        framed(b, 9, 0, code, frame(256, types(), types()));
        framed(b, 0, 0, code, frame(0, types(), types()), frame(1, types(), types()), frame(3, types(), types(INT)), frame(4, types(), types()));
        framed(b, 9, 1, code, frame(1, types(), types()), frame(1, types(), types()));
        framed(b, 9, 1, code, frame(1, types(), types()), frame(0, types(), types()));
        framed(b, 9, 1, code, frame(0, types(), types()), frame(0, types(), types()));
        framed(b, 9, 2, code, frame(0, types(), types()), frame(4, types(), types()), frame(1, types(), types()));
        framed(b, 9, 1, code, frame(0, types(), types()), frame(2, types(), types()), frame(1, types(), types()));
        // a hundred
        int[] long101 = new int[101];
        long101[100] = 177;
        int[][] all = new int[100][];
        for (int f = 0; f < 100; f++) {
            all[f] = frame(f + 1, types(), types());
        }
        framed(b, 0, 0, long101, all);
        all[99] = frame(99, types(), types());
        framed(b, 9, 99, long101, all);
    }

    /** "more locals or stack than LOCALS, STACK; a CLASS that isn't there (of arrays: what they are of)" */
    private static void framesRoom(Bench b) {
        int[] code = {0, 177};
        framed(b, 0, 0, code, frame(1, types(TOP, TOP, TOP), types()));
        framed(b, 9, 0, code, frame(1, types(TOP, TOP, TOP, TOP), types()));
        framed(b, 9, 0, row(177, 177), frame(1, types(), types(INT, INT, INT, INT)));
        framed(b, 0, 0, row(177, 177), frame(1, types(TOP, TOP, TOP), types(INT, INT, INT)));
        told(b, "no room at all", image("()V", 1, 0, 0, code, NONE, frames(frame(1, types(), types()))), 0, 0);
        told(b, "one local", image("()V", 1, 0, 0, code, NONE, frames(frame(1, types(TOP), types()))), 9, 0);
        told(b, "one on the stack", image("()V", 1, 0, 0, row(177, 177), NONE, frames(frame(1, types(), types(TOP)))), 9, 0);
        int[] gone = {3, 31};
        framed(b, 9, 0, row(177, 177), frame(1, types(gone), types()));
        framed(b, 9, 0, row(177, 177), frame(1, types(), types(gone)));
        framed(b, 9, 1, row(177, 177, 177), frame(1, types(TOP, INT, A), types(NULL)), frame(2, types(INT, INT, gone), types()));
        framed(b, 9, 0, row(177, 177), frame(1, types(), types(INT, INT, gone)));
        for (int[] type : ALL) {
            framed(b, 0, 0, row(177, 177), frame(1, types(type), types(type)));
        }
        Bench.Row row = new Bench.Row().put(74, 77, 8).text("A").put(3, 1).text("Object").put(3, 3).text("m").text("()V").text("[LGone;").put(3, 7);
        byte[] array = row.put(2, 4, 0, 1, 1, 5, 6, 1, 1, 0, 2, 177, 177, 0, 1, 0, 1, 1, 3, 8, 0).bytes();
        told(b, "an array of what isn't there", array, 9, 0);
        // it is there with the class
        ClassMill x = new ClassMill();
        Bench.load(x, array);
        Bench.load(x, plain("Gone", "Object"));
        b.due("verify", x.verify(), 0);
    }

    /** FRAMES with thirty locals and thirty on the stack, of types that differ. */
    private static void framesFull(Bench b) {
        int[][] locals = new int[30][];
        int[][] stack = new int[30][];
        for (int i = 0; i < 30; i++) {
            locals[i] = ALL[i % ALL.length];
            stack[i] = ALL[(i + 3) % ALL.length];
        }
        int[] same = frames(frame(1, locals, stack), frame(2, locals, stack));
        told(b, "full FRAMES", image("()V", 1, 30, 30, row(177, 0, 177), NONE, same), 0, 0);
        for (int i = 0; i < 30; i++) {
            int[] before = locals[i];
            locals[i] = before == INT ? NULL : INT;
            int[] other = frames(frame(1, locals, stack), frame(2, before == TOP ? changed(locals, i, NULL) : changed(locals, i, before), stack));
            told(b, "local " + i, image("()V", 1, 30, 30, row(177, 0, 177), NONE, other), 12, 2);
            locals[i] = before;
            int[] kept = stack[i];
            int[] last = frames(frame(1, locals, changed(stack, i, kept == INT ? NULL : INT)), frame(2, locals, kept == TOP ? changed(stack, i, NULL) : stack));
            told(b, "on the stack " + i, image("()V", 1, 30, 30, row(177, 0, 177), NONE, last), 12, 2);
        }
        int[][] more = Arrays.copyOf(locals, 31);
        more[30] = TOP;
        told(b, "31 locals", image("()V", 1, 30, 30, row(177, 177), NONE, frames(frame(1, more, stack))), 9, 0);
        told(b, "31 on the stack", image("()V", 1, 30, 30, row(177, 177), NONE, frames(frame(1, locals, more))), 9, 0);
        // thirty pushed and thirty popped
        int[] code = new int[61];
        Arrays.fill(code, 0, 30, 4);
        Arrays.fill(code, 30, 60, 87);
        code[60] = 177;
        told(b, "thirty pushed", image("()V", 1, 30, 0, code, NONE, frames()), 0, 0);
        told(b, "thirty pushed for 29", image("()V", 1, 29, 0, code, NONE, frames()), 12, 29);
        told(b, "local 29", image("()V", 1, 1, 30, row(4, 54, 29, 21, 29, 186, 177), NONE, frames()), 0, 0);
    }

    private static int[][] changed(int[][] types, int i, int[] type) {
        int[][] others = types.clone();
        others[i] = type;
        return others;
    }

    /** "10 it is reached from nowhere: behind one of 167, 172, 176, 177, 191 and without a FRAME" */
    private static void fromNowhere(Bench b) {
        code(b, 10, 1, 177, 0, 177);
        code(b, 10, 2, 1, 191, 177);
        framed(b, 10, 3, row(167, 0, 0, 177), frame(0, types(), types()));
        told(b, "172", image("()I", 1, 1, 0, row(4, 172, 4, 172), NONE, frames()), 10, 2);
        told(b, "176", image("()LA;", 1, 1, 0, row(1, 176, 1, 176), NONE, frames()), 10, 2);
        framed(b, 0, 0, row(177, 0, 177), frame(1, types(), types()));
        framed(b, 10, 1, row(177, 0, 177), frame(2, types(), types()));
        // behind all others one goes on
        for (int op : THREE) {
            if (op != 167) {
                int[] code = op < 159 ? row(4, op, 0, 3, 177) : op < 165 ? row(4, 4, op, 0, 3, 177) : row(1, 1, op, 0, 3, 177);
                framed(b, 0, 0, code, frame(code.length - 1, types(), types()));
            }
        }
    }

    /** "or (at the length) the end is reached" */
    private static void theEndIsReached(Bench b) {
        code(b, 10, 1, 0);
        code(b, 10, 2, 0, 0);
        code(b, 10, 2, 16, 7);
        code(b, 10, 3, 4, 54, 0);
        framed(b, 10, 4, row(4, 153, 255, 255), frame(0, types(), types()));
        framed(b, 10, 2, row(177, 0), frame(1, types(), types()));
        code(b, 10, 1500, new int[1500]);
        code(b, 0, 0, 0, 0, 177);
        // what is wrong ahead of the end comes first
        code(b, 12, 0, 87);
    }

    /** "11 a constant it names is no INT" */
    private static void constantsOfInts(Bench b) {
        for (int k = 0; k < 256; k++) {
            code(b, k == 13 ? 0 : 11, 1, 0, 18, k, 186, 177);
        }
    }

    /** "CLASS (there; 187, 189, 192, 193: no array)", "or 188 isn't followed by 10" */
    private static void constantsOfClasses(Bench b) {
        for (int k = 0; k < 36; k++) {
            boolean right = k == 2 || k == 4 || k == 6 || k == 29;
            code(b, right ? 0 : 11, 0, 187, k, 87, 177);
            code(b, right ? 0 : 11, 1, 4, 189, k, 87, 177);
            code(b, right ? 0 : 11, 1, 1, 192, k, 87, 177);
            code(b, right ? 0 : 11, 1, 1, 193, k, 87, 177);
        }
        for (int next = 0; next < 256; next++) {
            code(b, next == 10 ? 0 : 11, 1, 4, 188, next, 87, 177);
        }
    }

    /** "MEMBER (with a class that is there, which, or what it extends, has a field .. of that name and kind, the nearest of that name" */
    private static void constantsOfFields(Bench b) {
        for (int k = 0; k < 36; k++) {
            code(b, k == 16 || k == 19 ? 0 : 11, 1, 1, 180, k, 87, 177);
            code(b, k == 19 ? 0 : k == 16 ? 12 : 11, 2, 1, 1, 181, k, 177);
        }
        String[] owners = {"B", "A", "C", "Object", "Gone", "[LA;"};
        String[] names = {"x", "y", "z", "m"};
        String[] kinds = {"I", "Z", "LA;"};
        for (String owner : owners) {
            for (String name : names) {
                for (String kind : kinds) {
                    // A has x of I; B, which extends it, y of I and x of Z; C, which extends B, none
                    boolean right = (owner.equals("A") && name.equals("x") && kind.equals("I"))
                        || ((owner.equals("B") || owner.equals("C")) && ((name.equals("x") && kind.equals("Z")) || (name.equals("y") && kind.equals("I"))));
                    fieldOf(b, owner, name, kind, right);
                }
            }
        }
    }

    private static void fieldOf(Bench b, String owner, String name, String kind, boolean right) {
        ClassMill x = new ClassMill();
        Bench.load(x, field("A", "Object", "I"));
        Bench.load(x, new Bench.Row().put(74, 77, 8).text("B").put(3, 1).text("A").put(3, 3).text("x").text("Z").text("y").text("I").put(2, 4, 2, 5, 6, 7, 8, 0).bytes());
        Bench.load(x, method("C", "B", "()V", 0));
        Bench.Row user = new Bench.Row().put(74, 77, 11).text("U").put(3, 1).text("Object").put(3, 3).text("u").text("()V");
        user.text(owner).put(3, 7).text(name).text(kind).put(4, 8, 9, 10).put(2, 4, 0, 1, 1, 5, 6, 1, 0, 0, 5, 1, 180, 11, 87, 177, 0, 0);
        Bench.load(x, user.bytes());
        b.due("180 of " + owner + " " + name + " " + kind, x.verify(), right ? 0 : 11);
        b.due("where(0)", x.where(0), right ? -1 : 11);
        b.due("where(2)", x.where(2), right ? -1 : 1);
    }

    /** ".. or method ..; static for 184, not so for 182)" */
    private static void constantsOfMethods(Bench b) {
        for (int k = 0; k < 36; k++) {
            int[] object = {1, 4, 1, 182, k, 87, 177};
            code(b, k == 22 ? 0 : 11, 3, object);
            int[] one = {4, 184, k, 87, 177};
            code(b, k == 25 ? 0 : k == 34 ? 12 : 11, 1, one);
        }
        String[] owners = {"A", "B", "C", "Object", "Gone", "[LA;"};
        for (String owner : owners) {
            for (int fixed = 0; fixed < 2; fixed++) {
                for (int op = 182; op <= 184; op += 2) {
                    for (String kind : new String[] {"()V", "()I", "(I)V"}) {
                        boolean there = owner.length() == 1 && kind.equals("()V");
                        methodOf(b, owner, kind, fixed, op, there && (fixed == 1) == (op == 184));
                    }
                }
            }
        }
    }

    private static void methodOf(Bench b, String owner, String kind, int fixed, int op, boolean right) {
        ClassMill x = new ClassMill();
        Bench.load(x, method("A", "Object", "()V", fixed));
        Bench.load(x, field("B", "A", "I"));
        Bench.load(x, plain("C", "B"));
        Bench.Row user = new Bench.Row().put(74, 77, 11).text("U").put(3, 1).text("Object").put(3, 3).text("u").text("()V");
        user.text(owner).put(3, 7).text("m").text(kind).put(4, 8, 9, 10).put(2, 4, 0, 1, 1, 5, 6, 1, 0);
        int[] code = op == 182 ? row(1, 182, 11, 177) : row(0, 184, 11, 177);
        Bench.load(x, user.pair(code.length).put(code).put(0, 0).bytes());
        b.due(op + " of " + owner + " " + kind + " " + fixed, x.verify(), right ? 0 : 11);
        b.due("where(2)", x.where(2), right ? -1 : 1);
    }

    /** The first of the constants may be any that an instruction names. */
    private static void constant1(Bench b) {
        byte[] number = new Bench.Row().put(74, 77, 7).put(2, 0, 0, 1, 0).text("A").put(3, 2).text("Object").put(3, 4).text("m").text("()I")
            .put(3, 5, 0, 1, 1, 6, 7, 1, 0, 0, 3, 18, 1, 172, 0, 0).bytes();
        ClassMill x = new ClassMill();
        b.due("load", Bench.load(x, number), 8);
        b.due("verify", x.verify(), 0);
        b.due("start", x.start(8, 0), true);
        x.run(5);
        b.due("given", x.look(1), 256);
        byte[] self = new Bench.Row().put(74, 77, 6).put(3, 2).text("A").text("Object").put(3, 3).text("m").text("()LA;")
            .put(1, 4, 0, 1, 1, 5, 6, 1, 0, 0, 3, 187, 1, 176, 0, 0).bytes();
        ClassMill y = new ClassMill();
        b.due("load", Bench.load(y, self), 8);
        b.due("verify", y.verify(), 0);
        b.due("start", y.start(8, 0), true);
        y.run(5);
        b.due("given", y.look(1), 8);
        byte[] member = new Bench.Row().put(74, 77, 7).put(4, 3, 6, 7).text("A").put(3, 2).text("Object").put(3, 4).text("m").text("()I")
            .put(3, 5, 0, 1, 1, 6, 7, 1, 0, 0, 3, 184, 1, 172, 0, 0).bytes();
        ClassMill z = new ClassMill();
        b.due("load", Bench.load(z, member), 8);
        b.due("verify", z.verify(), 0);
        b.due("start", z.start(8, 0), true);
        z.run(20000);
        b.due("state", z.look(0), 5);
    }

    /** Two methods with six parameters each, of other types, one behind the other among the constants. */
    private static void membersInARow(Bench b) {
        Bench.Row row = new Bench.Row().put(74, 77, 12).text("A").put(3, 1).text("Object").put(3, 3).text("p").text("(IIIIII)I").text("q").text("(LA;LA;LA;LA;LA;LA;)LA;");
        row.put(4, 2, 5, 6).put(4, 2, 7, 8).text("m").text("()V").put(2, 4, 0, 3);
        row.put(1, 5, 6, 1, 6, 0, 2, 4, 172, 0, 0).put(1, 7, 8, 1, 6, 0, 2, 1, 176, 0, 0);
        int[] code = {3, 3, 3, 3, 3, 3, 184, 9, 87, 1, 1, 1, 1, 1, 1, 184, 10, 87, 177};
        byte[] right = row.put(1, 11, 12, 6, 0).pair(code.length).put(code).put(0, 0).bytes();
        ClassMill x = new ClassMill();
        Bench.load(x, right);
        b.due("verify", x.verify(), 0);
        int at = right.length - 2 - code.length;
        for (int i = 0; i < 6; i++) {
            b.due("patch", x.patch(8, at + i, 1), true);
            b.due("null for an int", x.verify(), 12);
            b.due("place", x.where(2), 6);
            b.due("patch", x.patch(8, at + i, 3), true);
            b.due("patch", x.patch(8, at + 9 + i, 3), true);
            b.due("an int for an object", x.verify(), 12);
            b.due("place", x.where(2), 15);
            b.due("patch", x.patch(8, at + 9 + i, 1), true);
        }
        b.due("verify", x.verify(), 0);
    }

    /** "(n below LOCALS.)" */
    private static void localsBelow(Bench b) {
        for (int n : new int[] {0, 1, 2, 3, 4, 29, 30, 31, 128, 255}) {
            boolean right = n < 3;
            code(b, right ? 0 : 12, 1, 4, 54, n, 177);
            code(b, right ? 0 : 12, 1, 1, 58, n, 177);
            framed(b, right ? 0 : 12, 1, row(177, 21, n, 177), frame(1, types(INT, INT, INT), types()));
            framed(b, right ? 0 : 12, 1, row(177, 25, n, 177), frame(1, types(A, NULL, INTS), types()));
        }
        told(b, "no locals", image("()V", 1, 1, 0, row(4, 54, 0, 177), NONE, frames()), 12, 1);
        told(b, "local 29 of 30", image("()V", 1, 1, 30, row(4, 54, 29, 177), NONE, frames()), 0, 0);
        told(b, "local 30 of 30", image("()V", 1, 1, 30, row(4, 54, 30, 177), NONE, frames()), 12, 1);
        told(b, "local 29 of 29", image("()V", 1, 1, 29, row(4, 54, 29, 177), NONE, frames()), 12, 1);
    }

    /** "at 0: this, the parameters; TOP; nothing"; "21 n: INT in local n ..; 25 n: NULL or CLASS likewise" */
    private static void localsGiven(Bench b) {
        for (int[] type : ALL) {
            boolean number = type == INT;
            boolean reference = type != INT && type != TOP;
            framed(b, number ? 0 : 12, 1, row(177, 21, 1, 177), frame(1, types(TOP, type, TOP), types()));
            framed(b, reference ? 0 : 12, 1, row(177, 25, 1, 177), frame(1, types(TOP, type, TOP), types()));
        }
        String kind = "(IZLA;[I[LA;LObject;)V";
        int[] code = {25, 0, 21, 1, 21, 2, 25, 3, 25, 4, 25, 5, 25, 6, 177};
        told(b, "this and six", image(kind, 0, 7, 7, code, NONE, frames()), 0, 0);
        int[][] locals = {A, INT, INT, A, INTS, AS, OBJECT, TOP};
        told(b, "all of them", image(kind, 0, 0, 8, row(0, 177), NONE, frames(frame(1, locals, types()))), 0, 0);
        for (int i = 0; i < 8; i++) {
            int[] other = i == 7 ? INT : locals[i] == INT ? NULL : FAULT;
            told(b, "local " + i, image(kind, 0, 0, 8, row(0, 177), NONE, frames(frame(1, changed(locals, i, other), types()))), 12, 1);
        }
        told(b, "static", image("(ILA;)V", 1, 0, 2, row(0, 177), NONE, frames(frame(1, types(INT, A), types()))), 0, 0);
        told(b, "nothing on the stack", image("(ILA;)V", 1, 1, 2, row(87, 177), NONE, frames()), 12, 0);
        told(b, "TOP behind", image("(I)V", 1, 1, 3, row(21, 1, 177), NONE, frames()), 12, 0);
        told(b, "TOP behind", image("(I)V", 1, 1, 3, row(25, 2, 177), NONE, frames()), 12, 0);
    }

    /** What a method before has in its locals is no matter for the next one. */
    private static void localsOfTheNext(Bench b) {
        Bench.Row row = new Bench.Row().put(74, 77, 7).text("A").put(3, 1).text("Object").put(3, 3).text("m").text("()V").text("n").put(2, 4, 0, 2);
        row.put(1, 5, 6, 1, 2, 0, 7, 4, 54, 0, 4, 54, 1, 177, 0, 0).put(1, 7, 6, 1, 2, 0, 4, 21, 1, 186, 177, 0, 0);
        ClassMill x = new ClassMill();
        Bench.load(x, row.bytes());
        b.due("verify", x.verify(), 12);
        b.due("method", x.where(1), 1);
        b.due("place", x.where(2), 0);
        Bench.Row stack = new Bench.Row().put(74, 77, 7).text("A").put(3, 1).text("Object").put(3, 3).text("m").text("()V").text("n").put(2, 4, 0, 2);
        stack.put(1, 5, 6, 1, 0, 0, 2, 4, 177, 0, 0).put(1, 7, 6, 1, 0, 0, 2, 186, 177, 0, 0);
        ClassMill y = new ClassMill();
        Bench.load(y, stack.bytes());
        b.due("verify", y.verify(), 12);
        b.due("method", y.where(1), 1);
    }

    /** What comes onto the stack by each instruction: with one place too few it is 12. */
    private static void stackNotEnough(Bench b) {
        int[][] pushing = {{1}, {2}, {3}, {8}, {16, 1}, {18, 13}, {187, 2}};
        for (int[] one : pushing) {
            for (int height = 0; height < 3; height++) {
                int[][] stack = new int[height][];
                Arrays.fill(stack, INT);
                int[] code = join(row(177), one, row(177));
                told(b, "push " + one[0] + " on " + height, image("()V", 1, height + 1, 0, code, NONE, frames(frame(1, types(), stack))), 0, 0);
                told(b, "push " + one[0] + " on all of " + height, image("()V", 1, height, 0, code, NONE, frames(frame(1, types(), stack))), 12, 1);
            }
        }
        told(b, "21", image("(I)V", 1, 0, 1, row(21, 0, 177), NONE, frames()), 12, 0);
        told(b, "25", image("(LA;)V", 1, 0, 1, row(25, 0, 177), NONE, frames()), 12, 0);
        told(b, "89", image("()V", 1, 1, 0, row(4, 89, 177), NONE, frames()), 12, 1);
        told(b, "89", image("()V", 1, 2, 0, row(4, 89, 177), NONE, frames()), 0, 0);
        // what takes as many as it gives needs no more
        int[][] same = {{116}, {188, 10}, {189, 2}};
        for (int[] one : same) {
            told(b, "in its place " + one[0], image("()V", 1, 1, 0, join(row(4), one, row(177)), NONE, frames()), 0, 0);
        }
        told(b, "in its place", image("()V", 1, 1, 0, row(1, 180, 16, 116, 177), NONE, frames()), 0, 0);
        told(b, "in their place", image("()V", 1, 2, 0, row(4, 4, 96, 177), NONE, frames()), 0, 0);
        told(b, "184 with a result", image("()V", 1, 1, 0, row(4, 184, 25, 177), NONE, frames()), 0, 0);
    }

    private static final int[][][] FITTING = {
        {TOP}, {TOP, INT}, {TOP, NULL, A, OBJECT, FAULT, NULL_FAULT, INTS, AS, OBJECTS}, {TOP, A, OBJECT}, {TOP, OBJECT}, {TOP, FAULT, OBJECT},
        {TOP, NULL_FAULT, FAULT, OBJECT}, {TOP, INTS, OBJECT}, {TOP, AS, OBJECTS, OBJECT}, {TOP, OBJECTS, OBJECT}};

    /** "A FITS B: B TOP; INT both; NULL: B NULL or a CLASS; classes and arrays as in 2. (A FRAME with as many on the stack, each fitting.)" */
    private static void fits(Bench b) {
        for (int a = 0; a < ALL.length; a++) {
            for (int[] other : ALL) {
                boolean right = Arrays.asList(FITTING[a]).contains(other);
                framed(b, right ? 0 : 12, 2, row(177, 0, 177), frame(1, types(ALL[a]), types()), frame(2, types(other), types()));
                framed(b, right ? 0 : 12, 2, row(177, 0, 177), frame(1, types(), types(ALL[a])), frame(2, types(), types(other)));
                framed(b, right ? 0 : 12, 2, row(177, 0, 177), frame(1, types(INT, INT, ALL[a]), types(INT, ALL[a])), frame(2, types(INT, INT, other), types(INT, other)));
            }
        }
        framed(b, 12, 2, row(177, 0, 177), frame(1, types(), types(INT)), frame(2, types(), types()));
        framed(b, 12, 2, row(177, 0, 177), frame(1, types(), types()), frame(2, types(), types(TOP)));
        framed(b, 12, 2, row(177, 0, 177), frame(1, types(), types(INT, INT)), frame(2, types(), types(INT)));
        // fewer locals fit, more do not but as TOP
        framed(b, 0, 0, row(177, 0, 177), frame(1, types(INT, INT), types()), frame(2, types(INT), types()));
        framed(b, 12, 2, row(177, 0, 177), frame(1, types(INT), types()), frame(2, types(INT, INT), types()));
        framed(b, 0, 0, row(177, 0, 177), frame(1, types(INT), types()), frame(2, types(INT, TOP, TOP), types()));
    }

    private static final int[][] NUMBER = {INT};
    private static final int[][] REFERENCE = {NULL, A, OBJECT, FAULT, NULL_FAULT, INTS, AS, OBJECTS};
    private static final int[][] ANY = ALL;
    private static final int[][] AN_INTS = {NULL, INTS};
    private static final int[][] AN_OBJECTS = {NULL, AS, OBJECTS};
    private static final int[][] AN_ARRAY = {NULL, INTS, AS, OBJECTS};
    private static final int[][] AN_A = {NULL, A};
    private static final int[][] A_FAULT = {NULL, FAULT, NULL_FAULT};

    /** An instruction of a method of that kind with each type in the place of each that it wants, the last one the uppermost. */
    private static void wants(Bench b, String kind, int[] op, int[][]... wanted) {
        boolean last = op[0] == 172 || op[0] == 176 || op[0] == 177 || op[0] == 191;
        int[] code = join(row(177), op, last ? NONE : row(177));
        if (!kind.endsWith("V")) {
            code = join(row(1, 191), op, row(1, 191));
            code = last ? Arrays.copyOf(code, code.length - 2) : code;
        }
        int at = kind.endsWith("V") ? 1 : 2;
        int[][] stack = new int[wanted.length][];
        for (int i = 0; i < wanted.length; i++) {
            stack[i] = wanted[i][wanted[i].length - 1];
        }
        for (int i = 0; i < wanted.length; i++) {
            for (int[] type : ALL) {
                boolean right = Arrays.asList(wanted[i]).contains(type);
                int[] frames = frames(frame(at, types(), changed(stack, i, type)));
                told(b, op[0] + " with " + Arrays.toString(type) + " as " + i, image(kind, 1, 6, 0, code, NONE, frames), right ? 0 : 12, at);
            }
        }
        // below them there may be anything, and not one of them may be missing
        int[][] below = new int[stack.length + 1][];
        System.arraycopy(stack, 0, below, 1, stack.length);
        below[0] = TOP;
        told(b, op[0] + " above TOP", image(kind, 1, 6, 0, code, NONE, frames(frame(at, types(), below))), 0, 0);
        if (stack.length > 0) {
            int[] fewer = frames(frame(at, types(), Arrays.copyOfRange(stack, 1, stack.length)));
            told(b, op[0] + " without one", image(kind, 1, 6, 0, code, NONE, fewer), 12, at);
            told(b, op[0] + " without any", image(kind, 1, 6, 0, code, NONE, frames(frame(at, types(), types()))), 12, at);
        }
    }

    private static void wantsNumbers(Bench b) {
        for (int op : new int[] {96, 100, 104, 108, 112, 120, 122, 124, 126, 128, 130}) {
            wants(b, "()V", row(op), NUMBER, NUMBER);
        }
        wants(b, "()V", row(116), NUMBER);
        wants(b, "()V", row(186), NUMBER);
        wants(b, "()V", row(87), ANY);
        wants(b, "()V", row(89), ANY);
        wants(b, "()V", row(0));
    }

    private static void wantsArrays(Bench b) {
        wants(b, "()V", row(46), AN_INTS, NUMBER);
        wants(b, "()V", row(50), AN_OBJECTS, NUMBER);
        wants(b, "()V", row(79), AN_INTS, NUMBER, NUMBER);
        wants(b, "()V", row(83), AN_OBJECTS, NUMBER, REFERENCE);
        wants(b, "()V", row(190), AN_ARRAY);
        wants(b, "()V", row(188, 10), NUMBER);
        wants(b, "()V", row(189, 2), NUMBER);
    }

    private static void wantsObjects(Bench b) {
        wants(b, "()V", row(191), A_FAULT);
        wants(b, "()V", row(192, 2), REFERENCE);
        wants(b, "()V", row(192, 4), REFERENCE);
        wants(b, "()V", row(193, 2), REFERENCE);
        int[] local = {58, 0};
        for (int[] type : ALL) {
            boolean reference = type != INT && type != TOP;
            framed(b, reference ? 0 : 12, 1, join(row(177), local, row(177)), frame(1, types(), types(type)));
            framed(b, type == INT ? 0 : 12, 1, row(177, 54, 0, 177), frame(1, types(), types(type)));
        }
        framed(b, 12, 1, row(177, 58, 0, 177), frame(1, types(), types()));
        framed(b, 12, 1, row(177, 54, 0, 177), frame(1, types(), types()));
    }

    private static void wantsMembers(Bench b) {
        wants(b, "()V", row(180, 16), AN_A);
        wants(b, "()V", row(180, 19), AN_A);
        wants(b, "()V", row(181, 16), AN_A, NUMBER);
        wants(b, "()V", row(181, 19), AN_A, AN_A);
        wants(b, "()V", row(182, 22), AN_A, NUMBER, AN_A);
        wants(b, "()V", row(184, 25), NUMBER);
        wants(b, "()V", row(184, 34), REFERENCE, AN_INTS, types(NULL, AS));
    }

    /** "153 (0) 154 (not) INT; 159 .. 164 INT INT; 165 166 two of NULL, CLASS; 167." */
    private static void wantsJumps(Bench b) {
        for (int op : THREE) {
            int many = op == 167 ? 0 : op < 159 ? 1 : 2;
            for (int i = 0; i < many; i++) {
                for (int[] type : ALL) {
                    int[][] stack = new int[many + 1][];
                    boolean references = op == 165 || op == 166;
                    Arrays.fill(stack, references ? A : INT);
                    stack[i + 1] = type;
                    boolean right = references ? type != INT && type != TOP : type == INT;
                    int[][] left = {references ? A : INT};
                    framed(b, right ? 0 : 12, 1, row(177, op, 0, 3, 177), frame(1, types(), stack), frame(4, types(), left));
                }
            }
            if (many > 0) {
                framed(b, 12, 1, row(177, op, 0, 3, 177), frame(1, types(), many == 1 ? types() : types(INT)), frame(4, types(), types()));
            } else {
                framed(b, 0, 0, row(177, op, 0, 3, 177), frame(1, types(), types(TOP)), frame(4, types(), types(TOP)));
            }
        }
    }

    /** "172 INT (kind of the result I, Z), 176 what fits it, 177 (V)" */
    private static void wantsReturns(Bench b) {
        wants(b, "()I", row(172), NUMBER);
        wants(b, "()Z", row(172), NUMBER);
        wants(b, "()LA;", row(176), AN_A);
        wants(b, "()LObject;", row(176), REFERENCE);
        wants(b, "()LFault;", row(176), A_FAULT);
        wants(b, "()[I", row(176), AN_INTS);
        wants(b, "()[LA;", row(176), types(NULL, AS));
        wants(b, "()[LObject;", row(176), AN_OBJECTS);
        wants(b, "()V", row(177));
        String[] kinds = {"()V", "()I", "()Z", "()LA;", "()[I", "()LObject;"};
        for (String kind : kinds) {
            boolean number = kind.equals("()I") || kind.equals("()Z");
            boolean none = kind.equals("()V");
            told(b, "172 of " + kind, image(kind, 1, 1, 0, row(4, 172), NONE, frames()), number ? 0 : 12, 1);
            told(b, "176 of " + kind, image(kind, 1, 1, 0, row(1, 176), NONE, frames()), number || none ? 12 : 0, 1);
            told(b, "177 of " + kind, image(kind, 1, 1, 0, row(177), NONE, frames()), none ? 0 : 12, 0);
        }
    }

    /** Behind the instruction the stack must be of that type, which one FRAME tells, and no other one that it does not fit. */
    private static void comes(Bench b, int[] op, int[] type, int[]... stack) {
        for (int t = 0; t < ALL.length; t++) {
            int from = Arrays.asList(ALL).indexOf(type);
            boolean right = Arrays.asList(FITTING[from]).contains(ALL[t]);
            int[] code = join(row(177), op, row(177));
            int[] frames = frames(frame(1, types(TOP, A), stack), frame(1 + op.length, types(), types(ALL[t])));
            told(b, "behind " + op[0] + " " + Arrays.toString(ALL[t]), image("()V", 1, 4, 2, code, NONE, frames), right ? 0 : 12, 1 + op.length);
        }
    }

    /** "and what comes in its place" */
    private static void comes(Bench b) {
        comes(b, row(1), NULL);
        for (int op = 2; op <= 8; op++) {
            comes(b, row(op), INT);
        }
        comes(b, row(16, 255), INT);
        comes(b, row(18, 13), INT);
        comes(b, row(25, 1), A);
        comes(b, row(46), INT, INTS, INT);
        comes(b, row(46), INT, NULL, INT);
        comes(b, row(50), A, AS, INT);
        comes(b, row(50), OBJECT, OBJECTS, INT);
        comes(b, row(50), NULL, NULL, INT);
        comes(b, row(96), INT, INT, INT);
        comes(b, row(130), INT, INT, INT);
        comes(b, row(116), INT, INT);
        comes(b, row(180, 16), INT, A);
        comes(b, row(180, 19), A, NULL);
        comes(b, row(182, 22), INT, A, INT, NULL);
        comes(b, row(184, 25), A, INT);
        comes(b, row(187, 2), A);
        comes(b, row(187, 29), NULL_FAULT);
        comes(b, row(188, 10), INTS, INT);
        comes(b, row(189, 2), AS, INT);
        comes(b, row(189, 4), OBJECTS, INT);
        comes(b, row(190), INT, INTS);
        comes(b, row(190), INT, AS);
        comes(b, row(192, 2), A, OBJECT);
        comes(b, row(192, 4), OBJECT, A);
        comes(b, row(192, 6), FAULT, NULL);
        comes(b, row(193, 2), INT, OBJECT);
        comes(b, row(87), A, A, INT);
        // 89: once more; 54 and 58: as it is, in the local
        for (int[] type : ALL) {
            framed(b, 0, 0, row(177, 89, 177), frame(1, types(), types(type)), frame(2, types(), types(type, type)));
        }
        framed(b, 12, 2, row(177, 89, 177), frame(1, types(), types(A)), frame(2, types(), types(A)));
        for (int[] type : REFERENCE) {
            framed(b, 0, 0, row(177, 58, 1, 177), frame(1, types(INT, INT, INT), types(type)), frame(3, types(INT, type, INT), types()));
            framed(b, 12, 3, row(177, 58, 1, 177), frame(1, types(INT, INT, INT), types(type)), frame(3, types(INT, INT, INT), types()));
        }
        framed(b, 0, 0, row(177, 54, 1, 177), frame(1, types(A, A, A), types(INT)), frame(3, types(A, INT, A), types()));
        framed(b, 12, 3, row(177, 54, 1, 177), frame(1, types(A, A, A), types(INT)), frame(3, types(A, A, A), types()));
        // nothing comes of these
        framed(b, 0, 0, row(177, 79, 177), frame(1, types(), types(INTS, INT, INT)), frame(2, types(), types()));
        framed(b, 0, 0, row(177, 83, 177), frame(1, types(), types(AS, INT, NULL)), frame(2, types(), types()));
        framed(b, 0, 0, row(177, 181, 16, 177), frame(1, types(), types(TOP, A, INT)), frame(3, types(), types(TOP)));
        framed(b, 0, 0, row(177, 186, 177), frame(1, types(), types(INT)), frame(2, types(), types()));
        framed(b, 0, 0, row(177, 184, 34, 177), frame(1, types(), types(A, INTS, AS)), frame(3, types(), types()));
    }

    /** "the FRAME at it (if it is reached from ahead; then the FRAME is the STATE, TOP behind its locals)" */
    private static void frameIsTheState(Bench b) {
        // reached from ahead: at 0 too
        framed(b, 12, 0, row(177), frame(0, types(INT), types()));
        framed(b, 12, 0, row(177), frame(0, types(), types(INT)));
        framed(b, 0, 0, row(177), frame(0, types(TOP, TOP, TOP), types()));
        framed(b, 12, 1, row(0, 177), frame(1, types(INT), types()));
        // from nowhere: the FRAME alone counts
        framed(b, 0, 0, row(177, 177), frame(1, types(INT, A, INTS), types(INT, A, INTS)));
        // behind it what the FRAME tells, not what was there
        framed(b, 12, 3, row(4, 54, 0, 21, 0, 186, 177), frame(3, types(), types()));
        framed(b, 12, 3, row(4, 54, 0, 21, 0, 186, 177), frame(3, types(TOP), types()));
        framed(b, 0, 0, row(4, 54, 0, 21, 0, 186, 177), frame(3, types(INT), types()));
        framed(b, 12, 6, row(4, 54, 0, 4, 54, 1, 21, 1, 186, 177), frame(6, types(INT), types()));
        framed(b, 12, 2, row(187, 2, 180, 16, 87, 177), frame(2, types(), types(OBJECT)));
        framed(b, 0, 0, row(187, 2, 180, 16, 87, 177), frame(2, types(), types(A)));
        framed(b, 12, 1, row(1, 180, 16, 87, 177), frame(1, types(), types(OBJECT)));
        // a FRAME of A where null comes is A from then on
        framed(b, 12, 5, row(1, 58, 0, 25, 0, 191), frame(3, types(A), types()));
        code(b, 0, 0, 1, 58, 0, 25, 0, 191);
    }

    private static void around(Bench b, int number, int place, int[] code, int[] handlers, int[]... all) {
        told(b, "HANDLERS " + Arrays.toString(handlers) + " of " + Arrays.toString(code), image("()V", 1, 2, 2, code, handlers, frames(all)), number, place);
    }

    /** "the locals of a HANDLER's FRAME that has it between FROM and TO": FROM is, TO is not. */
    private static void handlersFromTo(Bench b) {
        // 0: 4, 1: 54 0, 3: 1, 4: 58 0, 6: 0, 7: 177, 8: 87, 9: 177; local 0 is INT at 3 and 4 alone
        int[] code = {4, 54, 0, 1, 58, 0, 0, 177, 87, 177};
        int[] at = frame(8, types(INT), types(FAULT));
        int[] begins = {0, 1, 3, 4, 6, 7, 8, 9, 10};
        for (int from : begins) {
            for (int to : begins) {
                if (from < to) {
                    boolean right = from >= 3 && to <= 6 || from >= 8;
                    int place = from < 3 ? from : Math.max(6, from);
                    around(b, right ? 0 : 12, place, code, row(0, from, 0, to, 0, 8, 6), at);
                }
            }
        }
        // of two HANDLERS each has its own
        around(b, 0, 0, code, join(row(0, 3, 0, 4, 0, 8, 6), row(0, 4, 0, 6, 0, 8, 29)), at);
        around(b, 12, 6, code, join(row(0, 3, 0, 4, 0, 8, 6), row(0, 4, 0, 7, 0, 8, 29)), at);
    }

    /** "or that FRAME's stack isn't one that its CLASS fits" */
    private static void handlersFrame(Bench b) {
        int[] code = {0, 177, 87, 177};
        for (int[] type : ALL) {
            boolean right = type == TOP || type == OBJECT || type == FAULT;
            around(b, right ? 0 : 12, 0, code, row(0, 0, 0, 1, 0, 2, 6), frame(2, types(), types(type)));
            around(b, right || type == NULL_FAULT ? 0 : 12, 0, code, row(0, 0, 0, 1, 0, 2, 29), frame(2, types(), types(type)));
        }
        around(b, 12, 0, row(0, 177, 0, 177), row(0, 0, 0, 1, 0, 2, 6), frame(2, types(), types()));
        around(b, 12, 0, code, row(0, 0, 0, 1, 0, 2, 6), frame(2, types(), types(FAULT, FAULT)));
        // what is on the stack where it is thrown is no matter
        around(b, 0, 0, row(4, 4, 87, 87, 177, 87, 177), row(0, 0, 0, 5, 0, 5, 6), frame(5, types(), types(FAULT)));
        // only what it has: behind TO, and reached from nowhere, it is not looked at
        around(b, 0, 0, row(177, 0, 177, 87, 177), row(0, 1, 0, 2, 0, 3, 6), frame(1, types(INT), types()), frame(3, types(INT), types(FAULT)));
        around(b, 12, 1, row(177, 0, 177, 87, 177), row(0, 1, 0, 2, 0, 3, 6), frame(1, types(A), types()), frame(3, types(INT), types(FAULT)));
    }

    /** "the FRAME where it jumps to, or none there" */
    private static void jumpsFrame(Bench b) {
        framed(b, 12, 0, row(167, 0, 3, 177));
        framed(b, 0, 0, row(167, 0, 3, 177), frame(3, types(), types()));
        framed(b, 12, 1, row(4, 153, 0, 3, 177));
        framed(b, 12, 0, row(167, 0, 3, 177), frame(3, types(INT), types()));
        framed(b, 12, 0, row(167, 0, 3, 177), frame(3, types(), types(INT)));
        framed(b, 12, 1, row(4, 167, 0, 3, 177), frame(4, types(), types()));
        framed(b, 0, 0, row(4, 167, 0, 3, 177), frame(4, types(), types(INT)));
        // what it wants is gone where it jumps to
        framed(b, 0, 0, row(4, 4, 153, 0, 3, 177), frame(5, types(), types(INT)));
        framed(b, 12, 2, row(4, 4, 153, 0, 3, 177), frame(5, types(), types(INT, INT)));
        framed(b, 12, 2, row(4, 4, 153, 0, 3, 177), frame(5, types(), types()));
        // back
        framed(b, 0, 0, row(0, 167, 255, 255), frame(0, types(), types()));
        framed(b, 0, 0, row(4, 54, 0, 0, 167, 255, 255), frame(3, types(INT), types()));
        framed(b, 12, 6, row(4, 54, 0, 1, 58, 0, 167, 255, 253), frame(3, types(INT), types()));
    }

    /** "In this order: 10, FRAME, HANDLERS in their order, 11, what it wants, then the jump." */
    private static void inThisOrder(Bench b) {
        int[] handlers = {0, 0, 0, 2, 0, 3, 6};
        // 0: 18 1 names no INT, 2: 177, 3: 87, 4: 177
        around(b, 11, 0, row(18, 1, 177, 87, 177), handlers, frame(3, types(), types(FAULT)));
        around(b, 12, 0, row(18, 1, 177, 87, 177), handlers, frame(3, types(INT), types(FAULT)));
        around(b, 12, 0, row(18, 1, 177, 87, 177), NONE, frame(0, types(INT), types()));
        around(b, 11, 0, row(18, 1, 177, 87, 177), NONE, frame(0, types(), types()), frame(3, types(), types(FAULT)));
        around(b, 10, 1, row(177, 18, 1, 177), NONE);
        code(b, 11, 0, 181, 1, 177);
        code(b, 12, 0, 181, 16, 177);
        code(b, 11, 0, 182, 25, 177);
        code(b, 12, 0, 182, 22, 177);
        // what a jump wants ahead of where it goes: both are 12 at it
        code(b, 12, 0, 153, 0, 3, 177);
        // instruction by instruction
        code(b, 12, 0, 87, 18, 1, 177);
        code(b, 11, 0, 18, 1, 87, 87, 177);
        code(b, 12, 1, 4, 172, 177);
        // 6 to 9 of all of the method ahead of 10 to 12
        told(b, "6 ahead of 12", image("()V", 1, 0, 0, row(87, 9), NONE, frames()), 6, 1);
        told(b, "7 ahead of 12", image("()V", 1, 0, 0, row(87, 167, 0, 9), NONE, frames()), 7, 1);
        told(b, "8 ahead of 12", image("()V", 1, 0, 0, row(87, 177), row(0, 0, 0, 0, 0, 0, 6), frames()), 8, 0);
        told(b, "9 ahead of 12", image("()V", 1, 0, 0, row(87, 177), NONE, frames(frame(2, types(), types()))), 9, 0);
        told(b, "8 ahead of 9", image("()V", 1, 0, 0, row(87, 177), row(0, 0, 0, 0, 0, 0, 6), frames(frame(2, types(), types()))), 8, 0);
        told(b, "7 ahead of 8", image("()V", 1, 0, 0, row(167, 0, 9), row(0, 0, 0, 0, 0, 0, 6), frames()), 7, 0);
        told(b, "6 ahead of 7", image("()V", 1, 0, 0, row(167, 0, 9, 9), NONE, frames()), 6, 3);
    }

    /** "A run that is there stays." */
    private static void runStays(Bench b) {
        ClassMill x = b.brought("class A{static void m(){print(1);print(2);}}");
        b.due("start", x.start(8, 0), true);
        b.due("run", x.run(3), 3);
        String before = Bench.seen(x);
        b.due("verify", x.verify(), 0);
        b.stays("verify", before, x);
        b.due("run", x.run(10), 2);
        before = Bench.seen(x);
        b.due("verify", x.verify(), 0);
        b.stays("verify", before, x);
        // "(it isn't verified then)": a false start leaves no run either
        ClassMill y = new ClassMill();
        Bench.load(y, plain("A", "Gone"));
        b.due("verify", y.verify(), 3);
        b.due("look(12)", y.look(12), 0);
        b.due("start", y.start(8, 0), false);
        b.due("again", y.verify(), 3);
        Bench.load(y, plain("Gone", "Object"));
        b.due("look(12)", y.look(12), 0);
        b.due("verify", y.verify(), 0);
        b.due("look(12)", y.look(12), 1);
    }
}
