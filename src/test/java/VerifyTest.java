/** Promises 11 and 12: verify and where, as section 5 has them. */
public final class VerifyTest {
    private static final int[] EMPTY = {};
    private static final int[] NO_FRAMES = {0};
    private static final int VOID = 11;
    private static final int INT = 12;

    public static void main(String[] args) {
        Bench b = new Bench("VerifyTest");
        answers(b);
        heads(b);
        instructions(b);
        jumps(b);
        handlers(b);
        frames(b);
        reached(b);
        constants(b);
        wants(b);
        references(b);
        states(b);
        handlerStates(b);
        order(b);
        calls(b);
        b.end();
    }

    private static void told(Bench b, ClassMill x, String what, int number, int c, int m, int place) {
        b.due("verify: " + what, x.verify(), number);
        b.due("verified: " + what, x.look(12), number == 0 ? 1 : 0);
        b.due("class: " + what, x.where(0), number == 0 ? -1 : c);
        b.due("method: " + what, x.where(1), number == 0 ? -1 : m);
        b.due("place: " + what, x.where(2), number == 0 ? -1 : place);
    }

    private static void one(Bench b, String what, byte[] row, int number, int place) {
        ClassMill x = new ClassMill();
        b.due("load: " + what, Bench.load(x, row), 8);
        told(b, x, what, number, 8, number < 6 ? -1 : 0, place);
    }

    /** A static method of no result with 2 on its stack and 2 locals. */
    private static void code(Bench b, int number, int place, int... code) {
        StringBuilder what = new StringBuilder("code");
        for (int value : code) {
            what.append(' ').append(value);
        }
        one(b, what.toString(), Bench.method(1, VOID, 2, 2, code, EMPTY, NO_FRAMES), number, place);
    }

    private static void framed(Bench b, int number, int place, int[] code, int... frames) {
        one(b, "frames " + code.length + "/" + frames.length, Bench.method(1, VOID, 2, 2, code, EMPTY, frames), number, place);
    }

    private static void answers(Bench b) {
        ClassMill x = new ClassMill();
        b.due("verify of 0 to 7", x.verify(), 0);
        b.due("look(12)", x.look(12), 1);
        b.due("where(0)", x.where(0), -1);
        Bench.load(x, Bench.method(1, VOID, 0, 0, new int[] {0, 0, 9, 177}, EMPTY, NO_FRAMES));
        told(b, x, "an opcode", 6, 8, 0, 2);
        b.due("where(3)", x.where(3), -1);
        b.due("where(-1)", x.where(-1), -1);
        b.due("start", x.start(8, 0), false);
        b.due("patch", x.patch(8, x.type(8, 3) - 4, 0), true);
        b.due("verify", x.verify(), 0);
        // the latest one that told a number was the one before
        b.due("where(0)", x.where(0), 8);
        b.due("where(2)", x.where(2), 2);
        b.due("start", x.start(8, 0), true);
        b.due("verify", x.verify(), 0);
        b.due("the run stays", x.look(0), 1);
    }

    private static byte[] named(String name, String above, String field, String method, int fixed) {
        Bench.Row row = new Bench.Row().put(74, 77, 8).text(name).put(3, 1).text(above).put(3, 3);
        row.text("f").text(field.isEmpty() ? "I" : field).text("m").text(method.isEmpty() ? "()V" : method);
        row.put(2, 4, field.isEmpty() ? 0 : 1);
        if (!field.isEmpty()) {
            row.put(5, 6);
        }
        row.put(method.isEmpty() ? 0 : 1);
        if (!method.isEmpty()) {
            row.put(fixed, 7, 8, 1, 7, 0, 2, 1, 191, 0, 0);
        }
        return row.bytes();
    }

    private static void space(Bench b, int number, int c, byte[]... rows) {
        ClassMill x = new ClassMill();
        for (int k = 0; k < rows.length; k++) {
            b.due("load " + k, Bench.load(x, rows[k]), 8 + k);
        }
        told(b, x, "space of " + rows.length + " for " + number, number, c, -1, -1);
    }

    private static void heads(Bench b) {
        space(b, 0, 0, named("A", "B", "[LB;", "(LA;)LB;", 0), named("B", "Fault", "", "", 0));
        space(b, 3, 8, named("A", "B", "", "", 0));
        space(b, 3, 8, named("A", "Object", "LB;", "", 0));
        space(b, 3, 8, named("A", "Object", "[LB;", "", 0));
        space(b, 3, 8, named("A", "Object", "", "(LB;)V", 0));
        space(b, 3, 8, named("A", "Object", "", "(IZ[I)[LB;", 0));
        space(b, 3, 8, named("A", "A", "", "", 0));
        space(b, 3, 8, named("A", "B", "", "", 0), named("B", "C", "", "", 0), named("C", "B", "", "", 0));
        space(b, 3, 9, named("A", "B", "", "", 0), named("B", "C", "", "", 0));
        space(b, 3, 9, named("A", "Object", "", "", 0), named("B", "A", "LC;", "", 0));
        int at = Bench.constants().size();
        byte[] twoFields = Bench.constants().put(2, 4, 2, 13, 14, 13, 7, 0).bytes();
        one(b, "two fields", twoFields, 4, -1);
        byte[] twoMethods = Bench.constants().put(2, 4, 1, 10, 14, 2)
            .put(1, 10, 11, 0, 0, 0, 1, 177, 0, 0).put(1, 10, 12, 0, 0, 0, 1, 177, 0, 0).bytes();
        one(b, "two methods", twoMethods, 4, -1);
        byte[] same = Bench.constants().put(2, 4, 1, 10, 14, 1).put(1, 10, 11, 0, 0, 0, 1, 177, 0, 0).bytes();
        one(b, "a field and a method " + at, same, 0, -1);
        // a field may be there again in what extends; a method, with the same kind
        space(b, 0, 0, named("A", "Object", "I", "()V", 0), named("B", "A", "Z", "()V", 0));
        space(b, 5, 9, named("A", "Object", "I", "()V", 0), named("B", "A", "I", "()I", 0));
        space(b, 5, 9, named("A", "Object", "I", "()V", 1), named("B", "A", "I", "()V", 0));
        space(b, 5, 9, named("A", "Object", "I", "()V", 0), named("B", "A", "I", "()V", 1));
        space(b, 5, 9, named("A", "Object", "I", "()V", 1), named("B", "A", "I", "()V", 1));
        space(b, 5, 8, named("C", "B", "", "(I)V", 0), named("B", "A", "", "", 0), named("A", "Object", "", "()V", 0));
        // all of one class ahead of the next one's
        space(b, 5, 8, named("C", "A", "", "(I)V", 0), named("A", "Object", "", "()V", 0), named("B", "D", "", "", 0));
        space(b, 3, 8, named("B", "D", "", "", 0), named("A", "Object", "", "()V", 0), named("C", "A", "", "(I)V", 0));
    }

    private static void instructions(Bench b) {
        code(b, 0, 0, 0, 177);
        for (int op : new int[] {9, 15, 17, 19, 20, 22, 26, 45, 47, 51, 80, 88, 90, 95, 117, 155, 158, 168, 173, 178, 183, 185, 194, 255}) {
            code(b, 6, 1, 0, op, 177, 0);
        }
        for (int op : new int[] {16, 18, 21, 25, 54, 58, 180, 181, 182, 184, 187, 188, 189, 192, 193}) {
            code(b, 6, 2, 177, 0, op);
        }
        for (int op : new int[] {153, 154, 159, 160, 161, 162, 163, 164, 165, 166, 167}) {
            code(b, 6, 1, 177, op, 0);
        }
        code(b, 6, 3, 167, 0, 9, 9);
    }

    private static void jumps(Bench b) {
        code(b, 7, 0, 167, 0, 1);
        code(b, 7, 0, 167, 0, 3);
        code(b, 7, 0, 167, 255, 255);
        code(b, 7, 1, 0, 167, 127, 255);
        code(b, 7, 1, 0, 167, 128, 0);
        code(b, 7, 3, 4, 186, 0, 153, 0, 2, 167, 0, 1);
        framed(b, 0, 0, new int[] {167, 0, 0}, 1, 0, 0, 0, 0);
        // 6 of the whole method ahead of 7
        code(b, 6, 3, 167, 0, 1, 9);
    }

    private static void handler(Bench b, int number, int place, int... handlers) {
        // 0: nothing, 1: 16 7, 3: 186, 4: 177, 5: at the thrown, 6: 177
        int[] code = {0, 16, 7, 186, 177, 87, 177};
        one(b, "handler", Bench.method(1, VOID, 1, 0, code, handlers, new int[] {1, 0, 5, 0, 1, 3, 6}), number, place);
    }

    private static void handlers(Bench b) {
        handler(b, 0, 0, 0, 0, 0, 4, 0, 5, 6);
        handler(b, 0, 0, 0, 1, 0, 7, 0, 5, 6);
        handler(b, 8, 0, 0, 2, 0, 4, 0, 5, 6);
        handler(b, 8, 0, 0, 0, 0, 2, 0, 5, 6);
        handler(b, 8, 0, 0, 0, 0, 8, 0, 5, 6);
        handler(b, 8, 0, 0, 7, 0, 7, 0, 5, 6);
        handler(b, 8, 0, 0, 1, 0, 1, 0, 5, 6);
        handler(b, 8, 0, 0, 3, 0, 1, 0, 5, 6);
        handler(b, 8, 0, 0, 0, 0, 4, 0, 2, 6);
        handler(b, 8, 0, 0, 0, 0, 4, 0, 6, 6);
        handler(b, 8, 0, 0, 0, 0, 4, 0, 5, 4);
        handler(b, 8, 0, 0, 0, 0, 4, 0, 5, 8);
        handler(b, 8, 0, 0, 0, 0, 4, 0, 5, 17);
        handler(b, 8, 1, 0, 0, 0, 4, 0, 5, 6, 0, 0, 0, 4, 0, 5, 2);
        handler(b, 8, 2, 0, 0, 0, 4, 0, 5, 6, 0, 0, 0, 4, 0, 5, 6, 1, 0, 1, 4, 0, 5, 6);
    }

    private static void frames(Bench b) {
        int[] code = {0, 16, 7, 87, 177};
        framed(b, 0, 0, code, 2, 0, 0, 0, 0, 0, 4, 2, 0, 0, 0);
        framed(b, 9, 0, code, 1, 0, 2, 0, 0);
        framed(b, 9, 0, code, 1, 0, 5, 0, 0);
        framed(b, 9, 1, code, 2, 0, 4, 0, 0, 0, 4, 0, 0);
        framed(b, 9, 1, code, 2, 0, 4, 0, 0, 0, 1, 0, 0);
        framed(b, 9, 0, code, 1, 0, 4, 3, 0, 0, 0, 0);
        framed(b, 9, 0, code, 1, 0, 4, 0, 3, 1, 1, 1);
        framed(b, 9, 0, code, 1, 0, 4, 1, 3, 17, 0);
        framed(b, 9, 1, code, 2, 0, 0, 0, 0, 0, 4, 0, 1, 3, 17);
        int[] wide = new int[1 + 3 + 255 + 1 + 255];
        wide[0] = 1;
        wide[3] = 255;
        wide[259] = 255;
        framed(b, 9, 0, code, wide);
        // an array is there if what it is of is there
        Bench.Row row = new Bench.Row().put(74, 77, 10).text("A").put(3, 1).text("Object").put(3, 3).text("m").text("()V");
        row.text("[LGone;").put(3, 7).text("[LFault;").put(3, 9).put(2, 4, 0, 1, 1, 5, 6, 0, 1, 0, 1, 177, 0);
        byte[] gone = new Bench.Row().put(wide(row.bytes())).put(1, 0, 0, 1, 3, 8, 0).bytes();
        one(b, "an array of what is not there", gone, 9, 0);
        byte[] there = new Bench.Row().put(wide(row.bytes())).put(1, 0, 0, 1, 3, 10, 0).bytes();
        one(b, "an array of what is there", there, 12, 0);
    }

    private static int[] wide(byte[] row) {
        int[] values = new int[row.length];
        for (int i = 0; i < row.length; i++) {
            values[i] = row[i] & 255;
        }
        return values;
    }

    private static void reached(Bench b) {
        code(b, 10, 1, 177, 177);
        code(b, 10, 1, 0);
        code(b, 10, 3, 16, 7, 87);
        code(b, 10, 2, 1, 191, 0, 177);
        framed(b, 10, 3, new int[] {167, 0, 0, 177}, 1, 0, 0, 0, 0);
        framed(b, 0, 0, new int[] {177, 177}, 1, 0, 1, 0, 0);
        one(b, "172", Bench.method(1, INT, 1, 0, new int[] {4, 172, 0}, EMPTY, NO_FRAMES), 10, 2);
        // 153 goes on behind it
        framed(b, 10, 4, new int[] {4, 153, 255, 255}, 1, 0, 0, 0, 0);
        framed(b, 0, 0, new int[] {4, 153, 255, 255, 177}, 1, 0, 0, 0, 0);
    }

    private static void constants(Bench b) {
        code(b, 0, 0, 18, 9, 186, 177);
        code(b, 11, 0, 18, 10, 186, 177);
        code(b, 11, 1, 0, 18, 0, 186, 177);
        code(b, 11, 0, 18, 19, 186, 177);
        code(b, 11, 0, 18, 255, 186, 177);
        code(b, 0, 0, 187, 2, 87, 177);
        code(b, 0, 0, 187, 6, 191);
        code(b, 11, 0, 187, 8, 87, 177);
        code(b, 11, 0, 187, 17, 87, 177);
        code(b, 11, 0, 187, 1, 87, 177);
        code(b, 11, 1, 4, 189, 8, 87, 177);
        code(b, 11, 1, 4, 189, 17, 87, 177);
        code(b, 11, 1, 1, 192, 8, 87, 177);
        code(b, 11, 1, 1, 193, 8, 87, 177);
        code(b, 11, 1, 1, 193, 9, 87, 177);
        code(b, 0, 0, 4, 188, 10, 87, 177);
        code(b, 11, 1, 4, 188, 11, 87, 177);
        code(b, 0, 0, 1, 180, 15, 87, 177);
        code(b, 11, 1, 1, 180, 16, 87, 177);
        code(b, 11, 1, 1, 181, 16, 87, 177);
        code(b, 11, 1, 1, 180, 2, 87, 177);
        code(b, 0, 0, 184, 16, 177);
        code(b, 11, 0, 184, 15, 177);
        code(b, 11, 1, 1, 182, 16, 177);
        one(b, "not static", Bench.method(0, VOID, 1, 1, new int[] {25, 0, 182, 16, 177}, EMPTY, NO_FRAMES), 0, 0);
        one(b, "not static by 184", Bench.method(0, VOID, 1, 1, new int[] {184, 16, 177}, EMPTY, NO_FRAMES), 11, 0);
        // another kind than the one of that name: m is ()I there
        one(b, "kind", Bench.method(1, INT, 1, 1, new int[] {184, 16, 4, 172}, EMPTY, NO_FRAMES), 11, 0);
        // 11 ahead of what is wanted
        code(b, 11, 0, 181, 14, 177);
        code(b, 12, 0, 181, 15, 177);
    }

    private static void wants(Bench b) {
        code(b, 0, 0, 2, 3, 87, 87, 177);
        code(b, 12, 2, 4, 4, 4, 177);
        code(b, 12, 2, 4, 89, 89, 177);
        code(b, 0, 0, 4, 89, 96, 186, 177);
        code(b, 12, 0, 87, 177);
        code(b, 12, 0, 89, 177);
        for (int op : new int[] {96, 100, 104, 108, 112, 120, 122, 124, 126, 128, 130}) {
            code(b, 0, 0, 4, 8, op, 186, 177);
            code(b, 12, 1, 4, op, 186, 177);
            code(b, 12, 2, 4, 1, op, 186, 177);
            code(b, 12, 2, 1, 4, op, 186, 177);
        }
        code(b, 12, 1, 1, 116, 186, 177);
        code(b, 12, 1, 1, 186, 177);
        code(b, 0, 0, 4, 54, 1, 21, 1, 186, 177);
        code(b, 12, 0, 21, 0, 186, 177);
        code(b, 12, 3, 4, 54, 1, 21, 2, 186, 177);
        code(b, 12, 1, 4, 54, 2, 177);
        code(b, 12, 1, 4, 58, 0, 177);
        code(b, 12, 1, 1, 54, 0, 177);
        code(b, 12, 3, 4, 54, 0, 25, 0, 177);
        code(b, 12, 3, 1, 58, 0, 21, 0, 177);
        code(b, 0, 0, 1, 58, 0, 25, 0, 87, 177);
        code(b, 12, 1, 4, 172);
        code(b, 12, 1, 1, 176);
        one(b, "177 with a result", Bench.method(1, INT, 1, 0, new int[] {177}, EMPTY, NO_FRAMES), 12, 0);
        one(b, "172 of null", Bench.method(1, INT, 1, 0, new int[] {1, 172}, EMPTY, NO_FRAMES), 12, 1);
        one(b, "176 of an int", Bench.method(1, INT, 1, 0, new int[] {4, 176}, EMPTY, NO_FRAMES), 12, 1);
        one(b, "172 of two", Bench.method(1, INT, 2, 0, new int[] {4, 4, 172}, EMPTY, NO_FRAMES), 0, 0);
        for (int op : new int[] {153, 154, 159, 160, 161, 162, 163, 164}) {
            int[] code = {4, 4, op, 0, 3, 177};
            int left = op < 159 ? 1 : 0;
            framed(b, 0, 0, code, left == 1 ? new int[] {1, 0, 5, 0, 1, 1} : new int[] {1, 0, 5, 0, 0});
            code = new int[] {4, 1, op, 0, 3, 177};
            framed(b, 12, 2, code, left == 1 ? new int[] {1, 0, 5, 0, 1, 1} : new int[] {1, 0, 5, 0, 0});
        }
    }

    private static void references(Bench b) {
        for (int op : new int[] {165, 166}) {
            framed(b, 0, 0, new int[] {1, 187, 2, op, 0, 3, 177}, 1, 0, 6, 0, 0);
            framed(b, 12, 2, new int[] {1, 4, op, 0, 3, 177}, 1, 0, 5, 0, 0);
            framed(b, 12, 2, new int[] {4, 1, op, 0, 3, 177}, 1, 0, 5, 0, 0);
        }
        code(b, 0, 0, 1, 4, 46, 186, 177);
        code(b, 0, 0, 4, 188, 10, 4, 46, 186, 177);
        code(b, 12, 4, 4, 189, 2, 4, 46, 186, 177);
        code(b, 12, 2, 1, 1, 46, 186, 177);
        code(b, 12, 2, 4, 4, 46, 186, 177);
        code(b, 0, 0, 4, 189, 2, 4, 50, 180, 15, 186, 177);
        code(b, 0, 0, 1, 4, 50, 180, 15, 186, 177);
        code(b, 12, 5, 4, 189, 4, 4, 50, 180, 15, 186, 177);
        code(b, 12, 4, 4, 188, 10, 4, 50, 87, 177);
        code(b, 12, 3, 187, 2, 4, 50, 87, 177);
        code(b, 12, 2, 1, 4, 83, 177);
        code(b, 12, 2, 1, 4, 79, 177);
        int[][] stores = {{4, 188, 10, 4, 4, 79, 177}, {1, 4, 4, 79, 177}, {4, 189, 2, 4, 1, 83, 177}, {1, 4, 187, 4, 83, 177},
            {4, 189, 2, 4, 187, 4, 83, 177}};
        for (int[] store : stores) {
            one(b, "store " + store.length, Bench.method(1, VOID, 3, 0, store, EMPTY, NO_FRAMES), 0, 0);
        }
        one(b, "79 of objects", Bench.method(1, VOID, 3, 0, new int[] {4, 189, 2, 4, 4, 79, 177}, EMPTY, NO_FRAMES), 12, 5);
        one(b, "83 of ints", Bench.method(1, VOID, 3, 0, new int[] {4, 188, 10, 4, 1, 83, 177}, EMPTY, NO_FRAMES), 12, 5);
        one(b, "83 of an int", Bench.method(1, VOID, 3, 0, new int[] {4, 189, 2, 4, 4, 83, 177}, EMPTY, NO_FRAMES), 12, 5);
        code(b, 0, 0, 1, 190, 186, 177);
        code(b, 0, 0, 4, 188, 10, 190, 186, 177);
        code(b, 12, 2, 187, 2, 190, 186, 177);
        code(b, 12, 1, 4, 190, 186, 177);
        code(b, 0, 0, 1, 191);
        code(b, 12, 2, 187, 2, 191);
        code(b, 12, 2, 187, 4, 191);
        code(b, 12, 1, 4, 191);
        code(b, 0, 0, 4, 188, 10, 192, 2, 180, 15, 186, 177);
        code(b, 12, 1, 4, 192, 2, 87, 177);
        code(b, 12, 1, 4, 193, 2, 87, 177);
        code(b, 0, 0, 1, 193, 2, 186, 177);
        code(b, 12, 1, 1, 188, 10, 87, 177);
        code(b, 12, 1, 1, 189, 2, 87, 177);
        code(b, 12, 2, 187, 4, 180, 15, 186, 177);
        code(b, 12, 3, 187, 2, 1, 181, 15, 177);
        code(b, 12, 3, 187, 4, 4, 181, 15, 177);
        code(b, 0, 0, 187, 2, 4, 181, 15, 177);
    }

    private static void states(Bench b) {
        // a FRAME reached from ahead, then taken as it is
        framed(b, 0, 0, new int[] {4, 54, 0, 177}, 1, 0, 3, 1, 1, 0);
        framed(b, 12, 3, new int[] {4, 54, 0, 177}, 1, 0, 3, 2, 1, 1, 0);
        framed(b, 12, 3, new int[] {4, 54, 0, 177}, 1, 0, 3, 1, 2, 0);
        framed(b, 12, 3, new int[] {4, 54, 0, 177}, 1, 0, 3, 0, 1, 1);
        framed(b, 12, 0, new int[] {177}, 1, 0, 0, 1, 1, 0);
        framed(b, 12, 3, new int[] {4, 54, 0, 21, 0, 186, 177}, 1, 0, 3, 1, 0, 0);
        framed(b, 12, 3, new int[] {4, 54, 0, 21, 0, 186, 177}, 1, 0, 3, 0, 0);
        framed(b, 0, 0, new int[] {1, 177}, 1, 0, 1, 0, 1, 3, 2);
        framed(b, 0, 0, new int[] {1, 177}, 1, 0, 1, 0, 1, 2);
        framed(b, 0, 0, new int[] {1, 177}, 1, 0, 1, 0, 1, 0);
        framed(b, 12, 1, new int[] {1, 177}, 1, 0, 1, 0, 1, 1);
        framed(b, 0, 0, new int[] {187, 2, 177}, 1, 0, 2, 0, 1, 3, 4);
        framed(b, 12, 2, new int[] {187, 4, 177}, 1, 0, 2, 0, 1, 3, 2);
        framed(b, 12, 2, new int[] {187, 2, 177}, 1, 0, 2, 0, 1, 2);
        framed(b, 0, 0, new int[] {4, 188, 10, 177}, 1, 0, 3, 0, 1, 3, 4);
        framed(b, 12, 3, new int[] {4, 188, 10, 177}, 1, 0, 3, 0, 1, 3, 2);
        // TOP on the stack: 87 and 89 take anything
        framed(b, 0, 0, new int[] {4, 89, 87, 87, 177}, 1, 0, 1, 0, 1, 0);
        framed(b, 12, 1, new int[] {4, 186, 177}, 1, 0, 1, 0, 1, 0);
        // where a jump goes
        code(b, 12, 0, 167, 0, 3, 177);
        framed(b, 12, 0, new int[] {167, 0, 3, 177}, 1, 0, 3, 0, 1, 1);
        framed(b, 12, 1, new int[] {4, 153, 0, 3, 177}, 1, 0, 4, 1, 1, 0);
        // behind what is reached from nowhere the FRAME alone counts
        framed(b, 0, 0, new int[] {177, 21, 1, 186, 177}, 1, 0, 1, 2, 0, 1, 0);
        framed(b, 0, 0, new int[] {177, 180, 15, 186, 177}, 1, 0, 1, 0, 1, 3, 2);
        one(b, "this", Bench.method(0, VOID, 2, 1, new int[] {25, 0, 4, 181, 15, 177}, EMPTY, NO_FRAMES), 0, 0);
        one(b, "this as a FRAME", Bench.method(0, VOID, 2, 1, new int[] {177}, EMPTY, new int[] {1, 0, 0, 1, 3, 6, 0}), 12, 0);
    }

    private static void handlerStates(Bench b) {
        int[] handler = {0, 3, 0, 5, 0, 6, 6};
        // 0: 4, 1: 54 0, 3: 4, 4: 186, 5: 177, 6: 87, 7: 177
        int[] code = {4, 54, 0, 4, 186, 177, 87, 177};
        int[][] frames = {{1, 0, 6, 1, 1, 1, 3, 6}, {1, 0, 6, 2, 1, 1, 1, 3, 6}, {1, 0, 6, 1, 2, 1, 3, 6}, {1, 0, 6, 0, 1, 3, 4},
            {1, 0, 6, 0, 1, 3, 2}, {1, 0, 6, 0, 0}, {1, 0, 6, 0, 2, 1, 3, 6}, {1, 0, 6, 0, 1, 1}, {1, 0, 6, 0, 1, 0}};
        int[] numbers = {0, 12, 12, 0, 12, 12, 12, 12, 0};
        for (int i = 0; i < frames.length; i++) {
            one(b, "handler's frame " + i, Bench.method(1, VOID, 2, 2, code, handler, frames[i]), numbers[i], 3);
        }
        // from the first instruction on its local is not there yet
        one(b, "too early", Bench.method(1, VOID, 2, 2, code, new int[] {0, 1, 0, 5, 0, 6, 6}, frames[0]), 12, 1);
        one(b, "up to ahead of it", Bench.method(1, VOID, 2, 2, code, new int[] {0, 3, 0, 4, 0, 6, 6}, frames[0]), 0, 0);
        // its own CODE within it
        int[] loop = {0, 177, 87, 177};
        one(b, "around itself", Bench.method(1, VOID, 1, 1, loop, new int[] {0, 0, 0, 4, 0, 2, 6}, new int[] {1, 0, 2, 0, 1, 3, 6}), 0, 0);
    }

    private static void order(Bench b) {
        int[] badHandler = {0, 0, 0, 0, 0, 0, 6};
        int[] badFrame = {1, 0, 9, 0, 0};
        one(b, "7 ahead of 8", Bench.method(1, VOID, 0, 0, new int[] {167, 0, 1}, badHandler, badFrame), 7, 0);
        one(b, "8 ahead of 9", Bench.method(1, VOID, 0, 0, new int[] {177, 177}, badHandler, badFrame), 8, 0);
        one(b, "9 ahead of 10", Bench.method(1, VOID, 0, 0, new int[] {177, 177}, EMPTY, badFrame), 9, 0);
        one(b, "12 ahead of 10 that comes later", Bench.method(1, VOID, 0, 0, new int[] {87, 177, 177}, EMPTY, NO_FRAMES), 12, 0);
        one(b, "FRAME ahead of 11", Bench.method(1, VOID, 1, 0, new int[] {18, 1, 177}, EMPTY, new int[] {1, 0, 0, 0, 1, 1}), 12, 0);
        one(b, "HANDLERS ahead of 11", Bench.method(1, VOID, 1, 1, new int[] {18, 1, 177, 87, 177}, new int[] {0, 0, 0, 2, 0, 3, 6},
            new int[] {1, 0, 3, 1, 1, 1, 3, 6}), 12, 0);
        // methods of a class in their order, classes in theirs, heads of all ahead of them
        Bench.Row row = Bench.constants().put(2, 4, 0, 2).put(1, 10, 11, 0, 0, 0, 1, 177, 0, 0).put(1, 13, 11, 0, 0, 0, 1, 0, 0, 0);
        ClassMill x = new ClassMill();
        Bench.load(x, row.bytes());
        told(b, x, "the second method", 10, 8, 1, 1);
        Bench.load(x, named("B", "Gone", "", "", 0));
        told(b, x, "a head of a later class", 3, 9, -1, -1);
        ClassMill y = new ClassMill();
        Bench.load(y, named("B", "Object", "", "", 0));
        Bench.load(y, row.bytes());
        told(b, y, "a later class", 10, 9, 1, 1);
    }

    private static void calls(Bench b) {
        String text = "class A{int f(int n,A a,boolean z){return n;}static A g(){return null;}static void m(){A.g().f(1,null,true);}}"
            + "class B extends A{int h;}";
        ClassMill x = b.brought(text);
        int at = x.image(0, -1);
        byte[] row = Bench.image(x, 0);
        int call = 0;
        for (int i = 0; i + 1 < at; i++) {
            call = row[i] == (byte) 182 ? i : call;
        }
        // null's place takes an int no more, and the last one an int alone
        b.due("patch", x.patch(8, call - 2, 4), true);
        b.due("verify", x.verify(), 12);
        b.due("patch", x.patch(8, call - 2, 1), true);
        b.due("verify", x.verify(), 0);
        b.due("patch", x.patch(8, call - 1, 1), true);
        b.due("verify", x.verify(), 12);
        b.due("where(0)", x.where(0), 8);
        b.due("where(1)", x.where(1), 2);
        b.due("where(2)", x.where(2), 5);
    }
}
