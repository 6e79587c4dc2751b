/** Promises 7 to 10 and 17: load, keep, patch, clear, type, and FORM as section 3 has it. */
public final class LoadTest {
    public static void main(String[] args) {
        Bench b = new Bench("LoadTest");
        loading(b);
        keeping(b);
        patching(b);
        clearing(b);
        types(b);
        cutShort(b);
        constants(b);
        names(b);
        heads(b);
        methods(b);
        tables(b);
        b.end();
    }

    private static final int[] EMPTY = {};
    private static final int[] NO_FRAMES = {0};

    private static void form(Bench b, String what, byte[] row, int place) {
        ClassMill x = new ClassMill();
        b.due("FORM: " + what, Bench.load(x, row), place < 0 ? 8 : -2 - place);
        b.due("classes: " + what, x.look(11), place < 0 ? 1 : 0);
        b.due("tape: " + what, x.look(13), 0);
    }

    private static byte[] with(byte[] row, int i, int value) {
        byte[] changed = row.clone();
        changed[i] = (byte) value;
        return changed;
    }

    private static byte[] plain() {
        return Bench.method(1, 11, 1, 1, new int[] {4, 54, 0, 177}, EMPTY, NO_FRAMES);
    }

    private static byte[] named(String name) {
        return new Bench.Row().put(74, 77, 4).text(name).put(3, 1).text("Object").put(3, 3).put(2, 4, 0, 0).bytes();
    }

    private static void loading(Bench b) {
        ClassMill x = new ClassMill();
        b.due("load of nothing", x.load(), -2);
        b.due("load", Bench.load(x, plain()), 8);
        b.due("look(11)", x.look(11), 1);
        b.due("look(13)", x.look(13), 0);
        b.due("load again", Bench.load(x, plain()), -1);
        b.due("look(11)", x.look(11), 1);
        b.due("Object again", Bench.load(x, named("Object")), -1);
        b.due("StoreFault again", Bench.load(x, named("StoreFault")), -1);
        b.due("verify", x.verify(), 0);
        b.due("start", x.start(8, 0), true);
        b.due("FORM", Bench.load(x, with(plain(), 0, 75)), -2);
        b.due("a name that is there", Bench.load(x, named("A")), -1);
        b.due("look(12) stays", x.look(12), 1);
        b.due("run stays", x.look(0), 1);
        b.due("another", Bench.load(x, named("B")), 9);
        b.due("look(12)", x.look(12), 0);
        b.due("run is gone", x.look(0), 0);
        for (int c = 10; c < 16; c++) {
            b.due("class " + c, Bench.load(x, named("C" + c)), c);
        }
        b.due("the ninth", Bench.load(x, named("D")), -1);
        b.due("the ninth, no IMAGE", Bench.load(x, with(named("D"), 1, 0)), -3);
        b.due("look(11)", x.look(11), 8);
    }

    private static void keeping(Bench b) {
        ClassMill x = new ClassMill();
        b.due("keep(0) of none", x.keep(0), -1);
        Bench.compile(x, "class A{static void m(){}}class B extends A{}");
        b.due("keep(-1)", x.keep(-1), -1);
        b.due("keep(2)", x.keep(2), -1);
        b.due("keep(1)", x.keep(1), 8);
        b.due("type(8, 0)", x.type(8, 0), -1);
        x.feed(1, 2, 3, 4, 5);
        b.due("keep(0)", x.keep(0), 9);
        b.due("tape", x.look(13), 20);
        b.due("type(8, 0)", x.type(8, 0), 9);
        b.due("verify", x.verify(), 0);
        b.due("start", x.start(9, 0), true);
        b.due("keep(0) again", x.keep(0), -1);
        b.due("run stays", x.look(0), 1);
        b.due("verified stays", x.look(12), 1);
        x.end(0);
        Bench.compile(x, "class C{}");
        b.due("keep(0)", x.keep(0), 10);
        b.due("run is gone", x.look(0), 0);
        b.due("verified", x.look(12), 0);
    }

    private static void patching(Bench b) {
        ClassMill x = new ClassMill();
        b.due("patch of none", x.patch(8, 5, 'Z'), false);
        Bench.load(x, plain());
        Bench.load(x, named("B"));
        b.due("verify", x.verify(), 0);
        b.due("start", x.start(8, 0), true);
        b.due("no IMAGE then", x.patch(8, 0, 75), false);
        b.due("no name then", x.patch(8, 5, '1'), false);
        b.due("the name of another", x.patch(8, 5, 'B'), false);
        b.due("beyond", x.patch(8, x.type(8, 3), 0), false);
        b.due("below", x.patch(8, -1, 0), false);
        b.due("class 7", x.patch(7, 0, 74), false);
        b.due("class 10", x.patch(10, 0, 74), false);
        b.due("nothing was done", x.look(0) * 10 + x.look(12), 11);
        b.due("its lowest eight bits", x.patch(8, 5, 'C' + 256), true);
        b.due("run is gone", x.look(0), 0);
        b.due("not verified", x.look(12), 0);
        b.due("A again", Bench.load(x, named("A")), 10);
        b.due("C again", Bench.load(x, named("C")), -1);
        b.due("the same byte", x.patch(8, 0, 74), true);
        b.due("refused once more", x.patch(8, 5, 'B'), false);
        b.due("extends", x.type(9, 0), 0);
        ClassMill y = new ClassMill();
        byte[] long7 = named("Fault7");
        Bench.load(y, long7);
        b.due("length of the name", y.patch(8, 4, 5), false);
        b.due("not a built-in name", y.patch(8, 10, '_'), true);
        b.due("Obj_ct", Bench.load(y, named("Obj_ct")), 9);
        b.due("Object", y.patch(9, 8, 'e'), false);
    }

    private static void clearing(Bench b) {
        ClassMill x = new ClassMill();
        x.clear();
        Bench.load(x, plain());
        x.verify();
        x.start(8, 0);
        x.feed(0, 0, 0, 0, 0);
        x.clear();
        b.due("look(11)", x.look(11), 0);
        b.due("look(12)", x.look(12), 0);
        b.due("look(0)", x.look(0), 0);
        b.due("tape", x.look(13), 20);
        b.due("type(8, 1)", x.type(8, 1), -1);
        b.due("start", x.start(8, 0), false);
        x.end(0);
        b.due("load", Bench.load(x, plain()), 8);
    }

    private static void types(Bench b) {
        ClassMill x = new ClassMill();
        Bench.compile(x, "class A extends C{int x;boolean y;void m(){}}class B extends B1{}class B1 extends NullFault{}class C{}");
        for (int k = 0; k < 3; k++) {
            x.keep(k);
        }
        int[] above = {-1, 10, 2};
        int[] fields = {2, 0, 0};
        int[] methods = {1, 0, 0};
        for (int k = 0; k < 3; k++) {
            b.due("extends " + k, x.type(8 + k, 0), above[k]);
            b.due("fields " + k, x.type(8 + k, 1), fields[k]);
            b.due("methods " + k, x.type(8 + k, 2), methods[k]);
            b.due("bytes " + k, x.type(8 + k, 3), x.image(k, -1));
            b.due("constants " + k, x.type(8 + k, 4), x.image(k, 2));
        }
        b.due("type(8, 5)", x.type(8, 5), -1);
        b.due("type(8, -1)", x.type(8, -1), -1);
        b.due("type(11, 0)", x.type(11, 0), -1);
        x.keep(3);
        b.due("extends 0", x.type(8, 0), 11);
        b.due("type(2, 0)", x.type(2, 0), 1);
    }

    private static void cutShort(Bench b) {
        byte[] whole = Bench.method(0, 11, 2, 3, new int[] {0, 4, 87, 177}, new int[] {0, 0, 0, 1, 0, 2, 6},
            new int[] {1, 0, 2, 2, 3, 2, 1, 1, 3, 6});
        form(b, "whole", whole, -1);
        for (int n = 0; n < whole.length; n++) {
            byte[] cut = new byte[n];
            System.arraycopy(whole, 0, cut, 0, n);
            form(b, "cut to " + n, cut, n);
        }
        byte[] longer = new byte[whole.length + 2];
        System.arraycopy(whole, 0, longer, 0, whole.length);
        form(b, "bytes behind", longer, whole.length);
    }

    private static void constants(Bench b) {
        byte[] row = plain();
        form(b, "first byte", with(row, 0, 0), 0);
        form(b, "second byte", with(row, 1, 74), 1);
        form(b, "tag 0", with(row, 3, 0), 3);
        form(b, "tag 5", with(row, 3, 5), 3);
        form(b, "length 0", with(row, 4, 0), 4);
        form(b, "length 121", with(row, 4, 121), 4);
        form(b, "byte 32", with(row, 5, 32), 5);
        form(b, "byte 127", with(row, 5, 127), 5);
        form(b, "byte 255", with(row, 5, 255), 5);
        form(b, "CLASS of no TEXT", with(row, 7, 2), 7);
        form(b, "CLASS of constant 0", with(row, 7, 0), 7);
        form(b, "CLASS of constant 19", with(row, 7, 19), 7);
        form(b, "CLASS of a kind", with(row, 7, 11), 7);
        // those in constants come when all have been read
        form(b, "a later byte first", with(with(row, 7, 0), 10, 32), 10);
        Bench.Row texts = new Bench.Row().put(74, 77, 5).text("A").put(3, 1).text("Object").put(3, 3);
        form(b, "a TEXT of any kind", texts.text("+".repeat(120)).put(2, 4, 0, 0).bytes(), -1);
        int[][] members = {{1, 6, 7, 26}, {2, 7, 7, 27}, {2, 2, 7, 27}, {2, 6, 6, 28}, {2, 6, 0, 28}, {2, 6, 9, 28}, {9, 9, 9, 26}};
        for (int[] m : members) {
            Bench.Row r = new Bench.Row().put(74, 77, 7).text("A").put(3, 1).text("Object").put(3, 3);
            r.put(4, m[0], m[1], m[2]).text("f").text("[I").put(2, 4, 0, 0);
            form(b, "MEMBER " + m[0] + " " + m[1] + " " + m[2], r.bytes(), m[3] - 7);
        }
        Bench.Row r = new Bench.Row().put(74, 77, 7).text("A").put(3, 1).text("Object").put(3, 3);
        form(b, "MEMBER of what comes later", r.put(4, 2, 6, 7).text("f").text("[I").put(2, 4, 0, 0).bytes(), -1);
        Bench.Row s = new Bench.Row().put(74, 77, 8).text("A").put(3, 1).text("Object").put(3, 3);
        form(b, "MEMBER of an array", s.put(4, 8, 6, 7).text("f").text("[I").put(3, 7).put(2, 4, 0, 0).bytes(), -1);
    }

    private static void names(Bench b) {
        String[] names = {"A", "while", "Object_", "a23456789012", "[I", "[LA;", "[Lwhile;"};
        String[] wrong = {"1", "_a", "a-b", "a234567890123", "I;", "LA;", "[Z", "[", "[L;", "[LA", "[[I", "[LA;;", "[L1;", "[II", "()V"};
        for (String name : names) {
            form(b, "CLASS " + name, classNamed(name), -1);
        }
        for (String name : wrong) {
            form(b, "CLASS " + name, classNamed(name), 21 + name.length());
        }
        String[] kinds = {"I", "Z", "LA;", "[I", "[LA;", "Lwhile;"};
        String[] wrongKinds = {"V", "A", "L;", "LA", "[Z", "[[I", "II", "()V", "LA;I", "La234567890123;"};
        for (String kind : kinds) {
            form(b, "field " + kind, fieldOf(kind), -1);
        }
        for (String kind : wrongKinds) {
            form(b, "field " + kind, fieldOf(kind), fieldOf(kind).length - 2);
        }
        String[] methods = {"()V", "()I", "(IZ)[I", "(LA;[LA;[I)LA;", "(IIIIII)Z"};
        String[] wrongMethods = {"()", "(", "V", "I", "(V)V", "()VV", "()II", "(I", "(IIIIIII)V", "()[Z", ")V", "(L;)V", "()L"};
        for (String kind : methods) {
            form(b, "method " + kind, methodOf(kind), -1);
        }
        for (String kind : wrongMethods) {
            form(b, "method " + kind, methodOf(kind), methodOf(kind).length - 8);
        }
    }

    private static byte[] classNamed(String name) {
        return new Bench.Row().put(74, 77, 6).text("A").put(3, 1).text("Object").put(3, 3).text(name).put(3, 5)
            .put(2, 4, 0, 0).bytes();
    }

    private static byte[] fieldOf(String kind) {
        return new Bench.Row().put(74, 77, 5).text("A").put(3, 1).text("Object").put(3, 3).text(kind)
            .put(2, 4, 1, 1, 5, 0).bytes();
    }

    private static byte[] methodOf(String kind) {
        return new Bench.Row().put(74, 77, 5).text("A").put(3, 1).text("Object").put(3, 3).text(kind)
            .put(2, 4, 0, 1, 0, 1, 5, 0, 7, 0, 1, 177, 0, 0).bytes();
    }

    private static void heads(Bench b) {
        Bench.Row c = Bench.constants();
        int at = c.size();
        form(b, "CLASS no CLASS", Bench.constants().put(1, 4, 0, 0).bytes(), at);
        form(b, "CLASS an array", Bench.constants().put(8, 4, 0, 0).bytes(), at);
        form(b, "CLASS 0", Bench.constants().put(0, 4, 0, 0).bytes(), at);
        form(b, "extends an array", Bench.constants().put(2, 8, 0, 0).bytes(), at + 1);
        form(b, "extends an INT", Bench.constants().put(2, 9, 0, 0).bytes(), at + 1);
        form(b, "extends what is not there", Bench.constants().put(2, 17, 0, 0).bytes(), -1);
        form(b, "extends itself", Bench.constants().put(2, 2, 0, 0).bytes(), -1);
        form(b, "13 fields", Bench.constants().put(2, 4, 13, 13, 14).bytes(), at + 2);
        form(b, "a field's name", Bench.constants().put(2, 4, 1, 11, 14, 0).bytes(), at + 3);
        form(b, "a field's kind", Bench.constants().put(2, 4, 1, 13, 11, 0).bytes(), at + 4);
        form(b, "13 methods", Bench.constants().put(2, 4, 0, 13).bytes(), at + 3);
        Bench.Row twelve = Bench.constants().put(2, 4, 12);
        for (int i = 0; i < 12; i++) {
            twelve.put(13, 14);
        }
        twelve.put(12);
        for (int i = 0; i < 12; i++) {
            twelve.put(1, 10, 11, 0, 0, 0, 1, 177, 0, 0);
        }
        form(b, "12 fields and methods of one name", twelve.bytes(), -1);
    }

    private static void methods(Bench b) {
        byte[] row = Bench.method(0, 11, 30, 30, new int[] {177}, EMPTY, NO_FRAMES);
        int at = Bench.constants().size() + 6;
        form(b, "30 and 30", row, -1);
        form(b, "static 2", with(row, at, 2), at);
        form(b, "name", with(row, at + 1, 11), at + 1);
        form(b, "kind", with(row, at + 2, 14), at + 2);
        form(b, "STACK 31", with(row, at + 3, 31), at + 3);
        form(b, "LOCALS 31", with(row, at + 4, 31), at + 4);
        form(b, "LOCALS 1", with(row, at + 4, 1), -1);
        form(b, "LOCALS 0", with(row, at + 4, 0), at + 4);
        form(b, "static, LOCALS 0", with(with(row, at, 1), at + 4, 0), -1);
        form(b, "LENGTH 0", with(row, at + 6, 0), at + 5);
        form(b, "LENGTH 1501", with(with(row, at + 5, 5), at + 6, 221), at + 5);
        form(b, "LENGTH 1500, bytes missing", with(with(row, at + 5, 5), at + 6, 220), row.length);
        form(b, "LENGTH 65535", with(with(row, at + 5, 255), at + 6, 255), at + 5);
        form(b, "LENGTH 1500", Bench.method(1, 11, 0, 0, new int[1500], EMPTY, NO_FRAMES), -1);
        form(b, "LENGTH 1501", Bench.method(1, 11, 0, 0, new int[1501], EMPTY, NO_FRAMES), at + 5);
    }

    private static void tables(Bench b) {
        int at = Bench.constants().size() + 6 + 8;
        int[] code = {177};
        form(b, "20 HANDLERS", Bench.method(1, 11, 0, 0, code, handlers(20), NO_FRAMES), -1);
        form(b, "21 HANDLERS", Bench.method(1, 11, 0, 0, code, handlers(21), NO_FRAMES), at);
        form(b, "a HANDLER of an array", Bench.method(1, 11, 0, 0, code, new int[] {9, 9, 9, 9, 9, 9, 8}, NO_FRAMES), -1);
        form(b, "a HANDLER of no CLASS", Bench.method(1, 11, 0, 0, code, new int[] {0, 0, 0, 0, 0, 0, 5}, NO_FRAMES), at + 7);
        int[] frames = new int[1 + 100 * 4];
        frames[0] = 100;
        form(b, "100 FRAMES", Bench.method(1, 11, 0, 0, code, EMPTY, frames), -1);
        frames[0] = 101;
        form(b, "101 FRAMES", Bench.method(1, 11, 0, 0, code, EMPTY, frames), at + 1);
        form(b, "all of a FRAME", Bench.method(1, 11, 0, 0, code, EMPTY, new int[] {1, 9, 9, 4, 0, 1, 2, 3, 8, 1, 3, 17}), -1);
        form(b, "4 of a FRAME", Bench.method(1, 11, 0, 0, code, EMPTY, new int[] {1, 9, 9, 1, 4, 0}), at + 5);
        form(b, "a FRAME's stack", Bench.method(1, 11, 0, 0, code, EMPTY, new int[] {1, 9, 9, 0, 2, 1, 9}), at + 7);
        form(b, "a FRAME's CLASS", Bench.method(1, 11, 0, 0, code, EMPTY, new int[] {1, 9, 9, 1, 3, 7, 0}), at + 6);
        int[] wide = new int[1 + 3 + 255 + 1 + 255];
        wide[0] = 1;
        wide[3] = 255;
        wide[4 + 255] = 255;
        form(b, "255 locals and on the stack", Bench.method(1, 11, 0, 0, code, EMPTY, wide), -1);
    }

    private static int[] handlers(int many) {
        int[] row = new int[many * 7];
        for (int h = 0; h < many; h++) {
            row[h * 7 + 6] = 6;
        }
        return row;
    }
}
