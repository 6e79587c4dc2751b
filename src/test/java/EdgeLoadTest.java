import java.util.Arrays;

/** The boundary sentences of section 3's LOAD and of promises 7 to 10 and 17. */
public final class EdgeLoadTest {
    private static final int[] EMPTY = {};
    private static final int[] NO_FRAMES = {0};

    public static void main(String[] args) {
        Bench b = new Bench("EdgeLoadTest");
        firstBytes(b);
        howManyConstants(b);
        constant255(b);
        tags(b);
        texts(b);
        names(b);
        kinds(b);
        methodKinds(b);
        textsEnd(b);
        indices(b);
        whenAllHaveBeenRead(b);
        constantsOfOthers(b);
        classAndExtends(b);
        howManyFields(b);
        howManyMethods(b);
        stackAndLocals(b);
        lengths(b);
        howManyHandlers(b);
        howManyFrames(b);
        typesOfFrames(b);
        bytesMissing(b);
        bytesBehind(b);
        full6000(b);
        theNextOne(b);
        nameIsThere(b);
        eightAre(b);
        refusedLoad(b);
        refusedKeep(b);
        loadUndoes(b);
        patchBounds(b);
        patchBits(b);
        patchNames(b);
        patchRefused(b);
        patchIsRead(b);
        patchIsOfTheSpace(b);
        clearing(b);
        fitsAnew(b);
        typeBounds(b);
        typeAbove(b);
        b.end();
    }

    /** FORM at the place, or below 0 none. */
    private static void form(Bench b, String what, byte[] row, int place) {
        ClassMill x = new ClassMill();
        b.due("load: " + what, Bench.load(x, row), place < 0 ? 8 : -2 - place);
        b.due("classes: " + what, x.look(11), place < 0 ? 1 : 0);
    }

    private static Bench.Row head(int constants) {
        return new Bench.Row().put(74, 77, constants).text("A").put(3, 1).text("Object").put(3, 3);
    }

    private static byte[] plain(String name) {
        return new Bench.Row().put(74, 77, 4).text(name).put(3, 1).text("Object").put(3, 3).put(2, 4, 0, 0).bytes();
    }

    private static byte[] with(byte[] row, int i, int value) {
        byte[] changed = row.clone();
        changed[i] = (byte) value;
        return changed;
    }

    /** "bytes: 74, 77, .." */
    private static void firstBytes(Bench b) {
        form(b, "74, 77", plain("A"), -1);
        for (int value : new int[] {0, 73, 75, 77, 255}) {
            form(b, "first byte " + value, with(plain("A"), 0, value), 0);
        }
        for (int value : new int[] {0, 74, 76, 78, 255}) {
            form(b, "second byte " + value, with(plain("A"), 1, value), 1);
        }
        form(b, "both", with(with(plain("A"), 0, 0), 1, 0), 0);
    }

    private static void howManyConstants(Bench b) {
        form(b, "none", new Bench.Row().put(74, 77, 0, 0, 0, 0, 0).bytes(), 3);
        form(b, "none, and an index", new Bench.Row().put(74, 77, 0, 1, 1, 0, 0).bytes(), 3);
        form(b, "none, and no more", new Bench.Row().put(74, 77, 0).bytes(), 3);
        form(b, "one too few", with(plain("A"), 2, 3), 16);
        form(b, "one too many", with(plain("A"), 2, 5), 22);
        form(b, "255 that are not there", with(plain("A"), 2, 255), 22);
    }

    /** 255 constants, the last of which are named: the class, an INT, a field and a method of it. */
    private static Bench.Row constants255() {
        Bench.Row row = new Bench.Row().put(74, 77, 255).put(3, 243).text("Object").put(3, 2);
        for (int k = 4; k < 243; k++) {
            row.put(2, k, 0, 0, k);
        }
        row.text("A").text("m").text("()I").text("x").text("I").text("(IZLA;[I[LA;LA;)I").text("n");
        row.put(4, 1, 246, 247).put(4, 1, 244, 245).put(4, 1, 249, 248).put(3, 2).put(2, 128, 0, 0, 1);
        return row.put(4, 1, 246, 247);
    }

    private static void constant255(Bench b) {
        int[] m = {187, 1, 89, 18, 254, 181, 255, 180, 250, 172};
        int[] n = {21, 0, 21, 1, 25, 2, 25, 3, 25, 4, 25, 5, 184, 252, 172};
        Bench.Row row = constants255().put(1, 3, 1, 246, 247, 2);
        row.put(1, 244, 245, 3, 0).pair(m.length).put(m).put(0, 0);
        row.put(1, 249, 248, 6, 6).pair(n.length).put(n).put(0, 0);
        ClassMill x = new ClassMill();
        b.due("load of 255 constants", Bench.load(x, row.bytes()), 8);
        b.due("type(8, 4)", x.type(8, 4), 255);
        b.due("type(8, 3)", x.type(8, 3), row.size());
        b.due("type(8, 0)", x.type(8, 0), 0);
        b.due("verify", x.verify(), 0);
        b.due("start", x.start(8, 0), true);
        b.due("run", x.run(100), 6);
        b.due("given", x.look(1), Integer.MIN_VALUE + 1);
        // the last one as the class itself
        Bench.Row last = new Bench.Row().put(74, 77, 255).text("Object").put(3, 1);
        for (int k = 3; k < 254; k++) {
            last.put(2, 0, 0, 0, 0);
        }
        form(b, "CLASS 255", last.text("A").put(3, 254).put(255, 2, 0, 0).bytes(), -1);
    }

    /** "1 .., 2 .., 3 t, 4 c t u" and no others. */
    private static void tags(Bench b) {
        for (int tag : new int[] {0, 5, 6, 128, 255}) {
            form(b, "tag " + tag, with(plain("A"), 3, tag), 3);
            form(b, "tag " + tag + " of the last", with(plain("A"), 16, tag), 16);
        }
    }

    /** "a TEXT (of 33 .. 126, 1 .. 120)" */
    private static void texts(Bench b) {
        for (int length : new int[] {1, 2, 119, 120}) {
            form(b, "TEXT of " + length, head(5).text("+".repeat(length)).put(2, 4, 0, 0).bytes(), -1);
        }
        for (int length : new int[] {121, 122, 255}) {
            form(b, "TEXT of " + length, head(5).text("+".repeat(length)).put(2, 4, 0, 0).bytes(), 19);
        }
        form(b, "TEXT of 0", head(5).text("").put(2, 4, 0, 0).bytes(), 19);
        for (int c = 0; c < 256; c++) {
            boolean right = c >= 33 && c <= 126;
            String one = String.valueOf((char) c);
            form(b, "TEXT of byte " + c, head(5).text(one).put(2, 4, 0, 0).bytes(), right ? -1 : 20);
            form(b, "TEXT with byte " + c, head(5).text("++" + one).put(2, 4, 0, 0).bytes(), right ? -1 : 22);
        }
        // the length that is too great is told ahead of bytes that are missing
        form(b, "121 that are not there", head(5).put(1, 121).bytes(), 19);
        form(b, "120 that are not there", head(5).put(1, 120).bytes(), 20);
    }

    /** "A name is a NAME of section 1 (it may be a WORD)." */
    private static void names(Bench b) {
        String[] right = {"A", "Z", "a", "z", "aA", "aZ", "aa", "az", "a0", "a9", "a_", "while", "int", "instanceof", "a23456789012", "a___________"};
        String[] wrong = {"0", "9", "_", "a/", "a:", "a\u0040", "a[", "a^", "a`", "a{", "a-b", "a;", "\u0040a", "[", "`", "{", "/", "a234567890123",
            "a____________"};
        for (String name : right) {
            form(b, "name " + name, plain(name), -1);
            form(b, "field " + name, head(6).text(name).text("I").put(2, 4, 1, 5, 6, 0).bytes(), -1);
            form(b, "method " + name, head(6).text(name).text("()V").put(2, 4, 0, 1, 1, 5, 6, 0, 0, 0, 1, 177, 0, 0).bytes(), -1);
            form(b, "array " + name, head(6).text("[L" + name + ";").put(3, 5).put(2, 4, 0, 0).bytes(), -1);
        }
        for (String name : wrong) {
            form(b, "name " + name, plain(name), 6 + name.length());
            int at = 20 + name.length() + 3;
            form(b, "field " + name, head(6).text(name).text("I").put(2, 4, 1, 5, 6, 0).bytes(), at + 3);
            form(b, "method " + name, head(6).text(name).text("()V").put(2, 4, 0, 1, 1, 5, 6, 0, 0, 0, 1, 177, 0, 0).bytes(), at + 7);
            form(b, "array " + name, head(6).text("[L" + name + ";").put(3, 5).put(2, 4, 0, 0).bytes(), 20 + name.length() + 4);
        }
    }

    /** "KINDS of fields: I, Z (boolean), Lname; and [I, [Lname;" */
    private static void kinds(Bench b) {
        String[] right = {"I", "Z", "LA;", "Lz;", "La23456789012;", "[I", "[LA;", "[La23456789012;", "Lnew;"};
        String[] wrong = {"V", "A", "L", "L;", "LA", "A;", "LA;;", "LA;I", "II", "IZ", "[", "[Z", "[V", "[A", "[L", "[L;", "[LA", "[LA;I", "[[I", "[[LA;", "[II", "La234567890123;",
            "L1;", "L_;", "LLA;;", "()V", "(", ")", "()I", "i", "z", "la;"};
        for (String kind : right) {
            form(b, "field of " + kind, head(6).text("x").text(kind).put(2, 4, 1, 5, 6, 0).bytes(), -1);
            form(b, "MEMBER of " + kind, head(7).text("x").text(kind).put(4, 2, 5, 6).put(2, 4, 0, 0).bytes(), -1);
            boolean array = kind.charAt(0) == '[';
            boolean name = kind.equals("I") || kind.equals("Z");
            form(b, "CLASS of " + kind, head(6).text(kind).put(3, 5).put(2, 4, 0, 0).bytes(), array || name ? -1 : 21 + kind.length());
        }
        for (String kind : wrong) {
            int at = 18 + 3 + 2 + kind.length();
            form(b, "field of " + kind, head(6).text("x").text(kind).put(2, 4, 1, 5, 6, 0).bytes(), at + 4);
            boolean method = kind.equals("()V") || kind.equals("()I");
            form(b, "MEMBER of " + kind, head(7).text("x").text(kind).put(4, 2, 5, 6).put(2, 4, 0, 0).bytes(), method ? -1 : at + 3);
        }
    }

    /** "of methods ( those of the parameters ) that of the result, or V"; "6 parameters, at the kind" */
    private static void methodKinds(Bench b) {
        String[] right = {"()V", "()I", "()Z", "()LA;", "()[I", "()[LA;", "(I)V", "(Z)V", "(LA;)V", "([I)V", "([LA;)V", "(IIIIII)V", "(IZLA;[I[LA;I)[LA;",
            "(" + "[La23456789012;".repeat(6) + ")[La23456789012;"};
        String[] wrong = {"(", ")", "()", "V", "I", "(V)V", "()VV", "()IV", "()VI", "(I", "(I)", "I)V", "(I)v", "(IIIIIII)V", "(IIIIIIII)V", "(LA)V", "(L;)V", "([)V", "([Z)V", "([[I)V",
            "()[Z", "()[", "()L;", "()LA", "(()V)V", "(,)V", "(I,I)V", "[()V", "(A)V", "()A", "(I)LA;I"};
        for (String kind : right) {
            form(b, "method of " + kind, head(6).text("m").text(kind).put(2, 4, 0, 1, 1, 5, 6, 0, 6, 0, 1, 177, 0, 0).bytes(), -1);
            form(b, "MEMBER of " + kind, head(7).text("m").text(kind).put(4, 2, 5, 6).put(2, 4, 0, 0).bytes(), -1);
        }
        for (String kind : wrong) {
            int at = 18 + 3 + 2 + kind.length();
            form(b, "method of " + kind, head(6).text("m").text(kind).put(2, 4, 0, 1, 1, 5, 6, 0, 6, 0, 1, 177, 0, 0).bytes(), at + 6);
            boolean field = kind.equals("I");
            form(b, "MEMBER of " + kind, head(7).text("m").text(kind).put(4, 2, 5, 6).put(2, 4, 0, 0).bytes(), field ? -1 : at + 3);
        }
    }

    /** 93 constants: the name A, Object, their CLASSES in the places told, a CLASS of the last, which is a TEXT; INTS. */
    private static Bench.Row lastText(int self, int above, String last) {
        Bench.Row row = new Bench.Row().put(74, 77, 93).text("A").text("Object");
        for (int k = 3; k < 92; k++) {
            if (k == self || k == above) {
                row.put(3, k == self ? 1 : 2);
            } else {
                row.put(2, 0, 0, 0, 0);
            }
        }
        return row.put(3, last.startsWith("[") ? 93 : 1).text(last);
    }

    /** A TEXT ends with its length: the bytes behind it, here the indices of CLASS and extends, are none of its own. */
    private static void textsEnd(Bench b) {
        String[] cut = {"[", "[L", "[LA"};
        int[][] behind = {{'I', 90}, {'A', ';'}, {';', 90}};
        for (int i = 0; i < cut.length; i++) {
            Bench.Row row = lastText(behind[i][0], behind[i][1], cut[i]);
            int at = row.size() - 2 - cut[i].length() - 1;
            form(b, "CLASS of " + cut[i] + " ahead of " + (char) behind[i][0], row.put(behind[i]).put(0, 0).bytes(), at);
        }
        String[] kinds = {"()", "(", "(I", "(LA", "()L", "()[", "()LA", "(I)"};
        int[][] next = {{'V', 90}, {')', 'V'}, {')', 'V'}, {';', 90}, {'A', ';'}, {'I', 90}, {';', 90}, {'Z', 90}};
        for (int i = 0; i < kinds.length; i++) {
            Bench.Row row = lastText(next[i][0], next[i][1], kinds[i]);
            int at = row.put(next[i]).put(0, 1, 1, 1).size();
            form(b, "kind " + kinds[i] + " ahead of " + (char) next[i][0], row.put(93, 0, 6, 0, 1, 177, 0, 0).bytes(), at);
        }
    }

    /** "an index that is no constant of what it must be": 0, one of another tag, one behind the last. */
    private static void indices(Bench b) {
        // 5 TEXT x, 6 TEXT I, 7 an INT, 8 CLASS, 9 MEMBER
        for (int t : new int[] {0, 2, 7, 8, 9, 10, 255}) {
            form(b, "CLASS of " + t, head(9).text("x").text("I").put(2, 0, 0, 0, 0).put(3, t).put(4, 2, 5, 6).put(2, 4, 0, 0).bytes(), 18 + 3 + 3 + 5 + 1);
        }
        int member = 18 + 3 + 3 + 5 + 2 + 1;
        for (int c : new int[] {0, 1, 5, 7, 9, 10, 255}) {
            form(b, "MEMBER of CLASS " + c, head(9).text("x").text("I").put(2, 0, 0, 0, 0).put(3, 5).put(4, c, 5, 6).put(2, 4, 0, 0).bytes(), member);
        }
        for (int t : new int[] {0, 2, 7, 9, 10, 255}) {
            form(b, "MEMBER named " + t, head(9).text("x").text("I").put(2, 0, 0, 0, 0).put(3, 5).put(4, 2, t, 6).put(2, 4, 0, 0).bytes(), member + 1);
        }
        for (int u : new int[] {0, 2, 5, 7, 9, 10, 255}) {
            form(b, "MEMBER of kind " + u, head(9).text("x").text("I").put(2, 0, 0, 0, 0).put(3, 5).put(4, 2, 5, u).put(2, 4, 0, 0).bytes(), member + 2);
        }
        for (int t : new int[] {0, 1, 3, 5, 255}) {
            form(b, "the first is a CLASS of " + t, new Bench.Row().put(74, 77, 4).put(3, t).text("A").put(3, 4).text("Object").put(1, 3, 0, 0).bytes(), 4);
        }
        form(b, "the first is a CLASS", new Bench.Row().put(74, 77, 4).put(3, 2).text("A").put(3, 4).text("Object").put(1, 3, 0, 0).bytes(), -1);
        form(b, "the first is a MEMBER", new Bench.Row().put(74, 77, 6).put(4, 3, 2, 6).text("A").put(3, 2).text("Object").put(3, 4).text("I").put(3, 5, 0, 0).bytes(), -1);
        form(b, "the first is a wrong MEMBER", new Bench.Row().put(74, 77, 6).put(4, 3, 2, 2).text("A").put(3, 2).text("Object").put(3, 4).text("I").put(3, 5, 0, 0).bytes(), 6);
        form(b, "MEMBER of the last", head(9).text("x").text("I").put(2, 0, 0, 0, 0).put(4, 9, 5, 6).put(3, 1).put(2, 4, 0, 0).bytes(), -1);
        byte[] row = head(9).text("x").text("I").put(2, 0, 0, 0, 0).put(3, 5).put(4, 2, 5, 6).put(2, 4, 1, 5, 6, 0).bytes();
        int at = member + 3;
        for (int k : new int[] {0, 1, 3, 5, 7, 9, 10, 255}) {
            form(b, "CLASS is " + k, with(row, at, k), at);
            form(b, "extends " + k, with(row, at + 1, k), at + 1);
        }
        for (int k : new int[] {0, 2, 7, 9, 10, 255}) {
            form(b, "field named " + k, with(row, at + 3, k), at + 3);
            form(b, "field of kind " + k, with(row, at + 4, k), at + 4);
        }
    }

    /** "those in constants when all constants have been read, in their order" */
    private static void whenAllHaveBeenRead(Bench b) {
        byte[] row = head(7).text("x").text("I").put(4, 2, 5, 6).put(2, 4, 0, 0).bytes();
        // 5..7 CLASS 2, 16..17 CLASS 4, 24..27 MEMBER
        form(b, "right", row, -1);
        form(b, "the first CLASS", with(row, 7, 0), 7);
        form(b, "both CLASSES", with(with(row, 7, 0), 17, 0), 7);
        form(b, "a CLASS and a MEMBER", with(with(row, 17, 0), 25, 0), 17);
        form(b, "all of a MEMBER", with(with(with(row, 25, 0), 26, 0), 27, 0), 25);
        form(b, "two of a MEMBER", with(with(row, 26, 0), 27, 0), 26);
        form(b, "a CLASS and a later tag", with(with(row, 7, 0), 24, 0), 24);
        form(b, "a CLASS and a later byte of a TEXT", with(with(row, 7, 0), 20, 32), 20);
        form(b, "a CLASS, and bytes of constants are missing", Arrays.copyOf(with(row, 7, 0), 27), 27);
        form(b, "a CLASS, and no byte behind the constants", Arrays.copyOf(with(row, 7, 0), 28), 7);
        form(b, "a CLASS ahead of what stands behind the constants", with(with(row, 7, 0), 28, 0), 7);
        form(b, "the last of the constants ahead of it", with(with(row, 27, 0), 28, 0), 27);
    }

    /** An index that was a constant of an IMAGE before is none of this one's. */
    private static void constantsOfOthers(Bench b) {
        byte[] many = head(9).text("x").text("I").put(3, 1).text("m").text("()V").put(2, 4, 1, 5, 6, 1, 1, 8, 9, 0, 0, 0, 1, 177, 0, 0).bytes();
        byte[] more = Arrays.copyOf(many, many.length + 1);
        ClassMill x = new ClassMill();
        b.due("load with a byte behind", Bench.load(x, more), -2 - many.length);
        b.due("CLASS of another's constant", Bench.load(x, head(4).put(7, 4, 0, 0).bytes()), -2 - 18);
        b.due("load with a byte behind", Bench.load(x, more), -2 - many.length);
        b.due("extends another's constant", Bench.load(x, head(4).put(2, 7, 0, 0).bytes()), -2 - 19);
        b.due("load with a byte behind", Bench.load(x, more), -2 - many.length);
        b.due("a field's name", Bench.load(x, head(4).put(2, 4, 1, 5, 6, 0).bytes()), -2 - 21);
        b.due("load with a byte behind", Bench.load(x, more), -2 - many.length);
        b.due("a field's kind", Bench.load(x, head(4).put(2, 4, 1, 1, 6, 0).bytes()), -2 - 22);
        b.due("load with a byte behind", Bench.load(x, more), -2 - many.length);
        b.due("a method's kind", Bench.load(x, head(4).put(2, 4, 0, 1, 1, 1, 9, 0, 0, 0, 1, 177, 0, 0).bytes()), -2 - 24);
        b.due("load with a byte behind", Bench.load(x, more), -2 - many.length);
        b.due("a CLASS in the constants", Bench.load(x, with(head(4).put(2, 4, 0, 0).bytes(), 7, 5)), -2 - 7);
        b.due("the right one", Bench.load(x, many), 8);
        b.due("fields", x.type(8, 1), 1);
        b.due("methods", x.type(8, 2), 1);
        b.due("constants", x.type(8, 4), 9);
    }

    /** "CLASS and extends are no arrays" */
    private static void classAndExtends(Bench b) {
        Bench.Row c = head(8).text("[I").put(3, 5).text("[LA;").put(3, 7);
        int at = c.size();
        byte[] row = c.put(2, 4, 0, 0).bytes();
        form(b, "neither", row, -1);
        form(b, "CLASS [I", with(row, at, 6), at);
        form(b, "CLASS [LA;", with(row, at, 8), at);
        form(b, "extends [I", with(row, at + 1, 6), at + 1);
        form(b, "extends [LA;", with(row, at + 1, 8), at + 1);
        form(b, "both", with(with(row, at, 6), at + 1, 6), at);
        form(b, "extends itself", with(row, at + 1, 2), -1);
    }

    private static byte[] fields(int many, int told) {
        Bench.Row row = head(6).text("x").text("I").put(2, 4, told);
        for (int f = 0; f < many; f++) {
            row.put(5, 6);
        }
        return row.put(0).bytes();
    }

    /** "12 fields .. at most, at the count" */
    private static void howManyFields(Bench b) {
        int at = 18 + 3 + 3 + 2;
        for (int many : new int[] {0, 1, 11, 12}) {
            form(b, many + " fields", fields(many, many), -1);
        }
        for (int many : new int[] {13, 14, 128, 255}) {
            form(b, many + " fields", fields(many, many), at);
            form(b, many + " fields that are not there", fields(0, many), at);
        }
        form(b, "12 of 11", fields(11, 12), at + 1 + 22);
        ClassMill x = new ClassMill();
        Bench.load(x, fields(12, 12));
        b.due("type(8, 1)", x.type(8, 1), 12);
    }

    private static byte[] methods(int many, int told) {
        Bench.Row row = head(6).text("m").text("()V").put(2, 4, 0, told);
        for (int m = 0; m < many; m++) {
            row.put(1, 5, 6, 0, 0, 0, 1, 177, 0, 0);
        }
        return row.bytes();
    }

    /** "12 .. methods .. at most, at the count"; "a method's first byte is 0 or 1" */
    private static void howManyMethods(Bench b) {
        int at = 18 + 3 + 5 + 3;
        for (int many : new int[] {0, 1, 11, 12}) {
            form(b, many + " methods", methods(many, many), -1);
        }
        for (int many : new int[] {13, 14, 128, 255}) {
            form(b, many + " methods", methods(many, many), at);
            form(b, many + " methods that are not there", methods(0, many), at);
        }
        form(b, "12 of 11", methods(11, 12), at + 1 + 110);
        form(b, "10 of 11", methods(11, 10), at + 1 + 100);
        ClassMill x = new ClassMill();
        Bench.load(x, methods(12, 12));
        b.due("type(8, 2)", x.type(8, 2), 12);
        for (int first : new int[] {2, 3, 128, 255}) {
            form(b, "first byte " + first, with(methods(2, 2), at + 1, first), at + 1);
            form(b, "first byte " + first + " of the second", with(methods(2, 2), at + 11, first), at + 11);
        }
    }

    private static byte[] method(int fixed, String kind, int stack, int locals) {
        return head(6).text("m").text(kind).put(2, 4, 0, 1, fixed, 5, 6, stack, locals, 0, 1, 177, 0, 0).bytes();
    }

    /** "STACK and LOCALS are 30 at most, LOCALS not fewer than this and the parameters" */
    private static void stackAndLocals(Bench b) {
        int at = 18 + 3 + 5 + 4 + 3;
        for (int n : new int[] {0, 1, 29, 30}) {
            form(b, "STACK " + n, method(1, "()V", n, 0), -1);
            form(b, "LOCALS " + n, method(1, "()V", 0, n), -1);
        }
        for (int n : new int[] {31, 32, 128, 255}) {
            form(b, "STACK " + n, method(1, "()V", n, 0), at);
            form(b, "LOCALS " + n, method(1, "()V", 0, n), at + 1);
            form(b, "both " + n, method(1, "()V", n, n), at);
        }
        String[] kinds = {"()V", "(I)V", "(IZ)V", "(LA;[I[LA;)V", "(IIIIII)V"};
        int[] parameters = {0, 1, 2, 3, 6};
        for (int i = 0; i < kinds.length; i++) {
            int place = at + kinds[i].length() - 3 + 1;
            for (int fixed = 0; fixed < 2; fixed++) {
                int least = parameters[i] + 1 - fixed;
                form(b, least + " LOCALS for " + kinds[i], method(fixed, kinds[i], 0, least), -1);
                if (least > 0) {
                    form(b, least - 1 + " LOCALS for " + kinds[i], method(fixed, kinds[i], 0, least - 1), place);
                }
            }
        }
    }

    /** "LENGTH is 1 to 1,500, at its first byte" */
    private static void lengths(Bench b) {
        int at = Bench.constants().size() + 6 + 5;
        for (int n : new int[] {1, 2, 255, 256, 257, 1279, 1280, 1499, 1500}) {
            form(b, "LENGTH " + n, Bench.method(1, 11, 0, 0, new int[n], EMPTY, NO_FRAMES), -1);
        }
        for (int n : new int[] {0, 1501, 1502, 1536, 2000}) {
            form(b, "LENGTH " + n, Bench.method(1, 11, 0, 0, new int[n], EMPTY, NO_FRAMES), at);
        }
        byte[] row = Bench.method(1, 11, 0, 0, new int[1], EMPTY, NO_FRAMES);
        form(b, "LENGTH 65535", with(with(row, at, 255), at + 1, 255), at);
        form(b, "LENGTH 32768", with(with(row, at, 128), at + 1, 0), at);
        form(b, "LENGTH 0", with(row, at + 1, 0), at);
        // with one byte there is no LENGTH yet: bytes are missing, whatever the one is
        for (int high : new int[] {0, 5, 6, 96, 255}) {
            form(b, "half a LENGTH, " + high, Arrays.copyOf(with(row, at, high), at + 1), at + 1);
        }
        // what a LENGTH is wrong by comes ahead of the CODE that is missing behind it
        form(b, "LENGTH 1501 and no more", Arrays.copyOf(with(with(row, at, 5), at + 1, 221), at + 2), at);
        form(b, "LENGTH 1500 and no more", Arrays.copyOf(with(with(row, at, 5), at + 1, 220), at + 2), at + 2);
        form(b, "LENGTH 0 and no more", Arrays.copyOf(with(row, at + 1, 0), at + 2), at);
        form(b, "its second byte is missing", Arrays.copyOf(row, at + 1), at + 1);
        form(b, "all CODE is missing", Arrays.copyOf(row, at + 2), at + 2);
        form(b, "CODE is missing", Arrays.copyOf(with(with(row, at, 5), at + 1, 220), at + 3), at + 3);
        form(b, "1 of 2", Arrays.copyOf(with(row, at + 1, 2), at + 3), at + 3);
    }

    private static int[] handlers(int many) {
        int[] row = new int[many * 7];
        for (int h = 0; h < many; h++) {
            row[h * 7 + 6] = 6;
        }
        return row;
    }

    /** "20 HANDLERS .. at most, at the count" */
    private static void howManyHandlers(Bench b) {
        int at = Bench.constants().size() + 6 + 8;
        for (int many : new int[] {0, 1, 19, 20}) {
            form(b, many + " HANDLERS", Bench.method(1, 11, 0, 0, new int[] {177}, handlers(many), NO_FRAMES), -1);
        }
        for (int many : new int[] {21, 22, 36}) {
            form(b, many + " HANDLERS", Bench.method(1, 11, 0, 0, new int[] {177}, handlers(many), NO_FRAMES), at);
        }
        byte[] row = Bench.method(1, 11, 0, 0, new int[] {177}, EMPTY, NO_FRAMES);
        form(b, "255 HANDLERS", with(row, at, 255), at);
        for (int k : new int[] {0, 1, 9, 10, 15, 19, 255}) {
            int[] last = handlers(20);
            last[139] = k;
            form(b, "the last of CLASS " + k, Bench.method(1, 11, 0, 0, new int[] {177}, last, NO_FRAMES), at + 140);
        }
        int[] any = {255, 255, 255, 255, 255, 255, 8};
        form(b, "FROM, TO, AT are any", Bench.method(1, 11, 0, 0, new int[] {177}, any, NO_FRAMES), -1);
    }

    private static int[] frames(int many, int told) {
        int[] row = new int[1 + many * 4];
        row[0] = told;
        return row;
    }

    /** "100 FRAMES at most, at the count" */
    private static void howManyFrames(Bench b) {
        int at = Bench.constants().size() + 6 + 9;
        for (int many : new int[] {0, 1, 99, 100}) {
            form(b, many + " FRAMES", Bench.method(1, 11, 0, 0, new int[] {177}, EMPTY, frames(many, many)), -1);
        }
        for (int many : new int[] {101, 102, 255}) {
            form(b, many + " FRAMES", Bench.method(1, 11, 0, 0, new int[] {177}, EMPTY, frames(many, many)), at);
            form(b, many + " FRAMES that are not there", Bench.method(1, 11, 0, 0, new int[] {177}, EMPTY, frames(0, many)), at);
        }
        form(b, "100 of 99", Bench.method(1, 11, 0, 0, new int[] {177}, EMPTY, frames(99, 100)), at + 1 + 396);
        form(b, "99 of 100", Bench.method(1, 11, 0, 0, new int[] {177}, EMPTY, frames(100, 99)), at + 1 + 396);
    }

    /** "0 to 3 of a FRAME"; how many locals and on the stack is no matter here. */
    private static void typesOfFrames(Bench b) {
        int at = Bench.constants().size() + 6 + 9;
        form(b, "0 to 2, 3 c", Bench.method(1, 11, 0, 0, new int[] {177}, EMPTY, new int[] {1, 0, 0, 4, 0, 1, 2, 3, 8, 4, 3, 2, 2, 1, 0}), -1);
        for (int tag : new int[] {4, 5, 128, 255}) {
            form(b, tag + " of a local", Bench.method(1, 11, 0, 0, new int[] {177}, EMPTY, new int[] {1, 0, 0, 2, 0, tag, 0}), at + 5);
            form(b, tag + " on the stack", Bench.method(1, 11, 0, 0, new int[] {177}, EMPTY, new int[] {1, 0, 0, 0, 2, 0, tag}), at + 6);
        }
        for (int k : new int[] {0, 1, 9, 10, 15, 19, 255}) {
            form(b, "CLASS " + k, Bench.method(1, 11, 0, 0, new int[] {177}, EMPTY, new int[] {1, 0, 0, 1, 3, k, 0}), at + 5);
            form(b, "CLASS " + k, Bench.method(1, 11, 0, 0, new int[] {177}, EMPTY, new int[] {1, 0, 0, 0, 1, 3, k}), at + 6);
        }
        int[] wide = new int[1 + 2 + 1 + 255 + 1 + 255];
        wide[0] = 1;
        wide[3] = 255;
        wide[4 + 255] = 255;
        form(b, "255 and 255", Bench.method(1, 11, 0, 0, new int[] {177}, EMPTY, wide), -1);
        form(b, "255 of 254", Bench.method(1, 11, 0, 0, new int[] {177}, EMPTY, Arrays.copyOf(wide, wide.length - 1)), at + wide.length - 1);
    }

    /** "(the length, if bytes are missing ..)" */
    private static void bytesMissing(Bench b) {
        byte[] row = head(9).text("x").text("I").text("m").text("(I)V").put(4, 2, 5, 6)
            .put(2, 4, 1, 5, 6, 2).put(0, 7, 8, 1, 2, 0, 2, 0, 177, 1, 0, 0, 0, 1, 0, 1, 2, 1, 0, 0, 2, 3, 2, 1, 1, 3, 2)
            .put(1, 5, 8, 0, 1, 0, 1, 177, 0, 0).bytes();
        form(b, "whole", row, -1);
        for (int n = 0; n < row.length; n++) {
            form(b, "cut to " + n, Arrays.copyOf(row, n), n);
        }
    }

    /** "no bytes behind the end" */
    private static void bytesBehind(Bench b) {
        byte[] row = plain("A");
        for (int more : new int[] {1, 2, 20, 300}) {
            form(b, more + " behind", Arrays.copyOf(row, row.length + more), row.length);
        }
        byte[] twice = Arrays.copyOf(row, row.length * 2);
        System.arraycopy(row, 0, twice, row.length, row.length);
        form(b, "another one behind", twice, row.length);
    }

    /** An IMAGE that is as long as the tape can be. */
    private static void full6000(Bench b) {
        Bench.Row row = head(4 + 49);
        for (int k = 0; k < 49; k++) {
            row.text("+".repeat(120));
        }
        byte[] whole = row.put(2, 4, 0, 0).bytes();
        b.due("6000 bytes", whole.length, 6000);
        ClassMill x = new ClassMill();
        b.due("load of 6000 bytes", Bench.load(x, whole), 8);
        b.due("bytes", x.type(8, 3), 6000);
        b.due("patch of the last byte", x.patch(8, 5999, 0), true);
        b.due("patch behind it", x.patch(8, 6000, 0), false);
        b.due("verify", x.verify(), 0);
        form(b, "the last of 6000 bytes is wrong", with(whole, 5999, 13), 5999);
        form(b, "the last of 6000 bytes is missing", Arrays.copyOf(whole, 5999), 5999);
    }

    /** "the class, the next one of the SPACE" */
    private static void theNextOne(Bench b) {
        ClassMill x = new ClassMill();
        Bench.compile(x, "class K1{}class K3{}");
        for (int c = 8; c < 16; c++) {
            int answer = c == 9 ? x.keep(0) : c == 11 ? x.keep(1) : Bench.load(x, plain("K" + (c - 8)));
            b.due("class " + c, answer, c);
            b.due("look(11)", x.look(11), c - 7);
            b.due("type(" + c + ", 3)", x.type(c, 3), 23);
            b.due("type(" + (c + 1) + ", 3)", x.type(c + 1, 3), -1);
        }
        x.clear();
        b.due("behind clear", Bench.load(x, plain("K7")), 8);
    }

    /** "NONE, when the name is there already (0 to 7's, too)" */
    private static void nameIsThere(Bench b) {
        String[] names = {"Object", "Fault", "NullFault", "IndexFault", "ArithFault", "CastFault", "SizeFault", "StoreFault"};
        ClassMill x = new ClassMill();
        for (String name : names) {
            b.due("load of " + name, Bench.load(x, plain(name)), -1);
            b.due("look(11)", x.look(11), 0);
        }
        b.due("Objec", Bench.load(x, plain("Objec")), 8);
        b.due("Objects", Bench.load(x, plain("Objects")), 9);
        b.due("object", Bench.load(x, plain("object")), 10);
        b.due("Fault2", Bench.load(x, plain("Fault2")), 11);
        b.due("Null", Bench.load(x, plain("Null")), 12);
        b.due("the first again", Bench.load(x, plain("Objec")), -1);
        b.due("the last again", Bench.load(x, plain("Null")), -1);
        Bench.compile(x, "class Null{int x;}class Nul{}");
        b.due("keep of one that is there", x.keep(0), -1);
        b.due("keep of another", x.keep(1), 13);
        b.due("keep of it again", x.keep(1), -1);
        x.clear();
        b.due("gone behind clear", x.keep(0), 8);
    }

    /** "or eight are"; FORM is told ahead of it. */
    private static void eightAre(Bench b) {
        ClassMill x = new ClassMill();
        for (int c = 8; c < 16; c++) {
            b.due("class " + c, Bench.load(x, plain("K" + c)), c);
        }
        Bench.compile(x, "class L{}");
        b.due("the ninth", Bench.load(x, plain("L")), -1);
        b.due("the ninth by keep", x.keep(0), -1);
        b.due("the ninth, of a name that is there", Bench.load(x, plain("K9")), -1);
        b.due("the ninth, no IMAGE", Bench.load(x, with(plain("L"), 4, 0)), -2 - 4);
        b.due("nothing", x.load(), -2);
        b.due("look(11)", x.look(11), 8);
        b.due("type(16, 0)", x.type(16, 0), -1);
        b.due("verify", x.verify(), 0);
        x.clear();
        b.due("behind clear", x.keep(0), 8);
    }

    /** A mill with two classes, verified, its run begun and stepped twice. */
    private static ClassMill busy(Bench b) {
        ClassMill x = new ClassMill();
        Bench.compile(x, "class A{int x;static void m(){print(7);new A().x=5;m();}}class B extends A{}");
        b.due("keep", x.keep(0) + x.keep(1), 17);
        b.due("verify", x.verify(), 0);
        b.due("start", x.start(8, 0), true);
        b.due("run", x.run(7), 7);
        return x;
    }

    /** "the SPACE stays": its classes, whether it is verified, its run. */
    private static void refusedLoad(Bench b) {
        ClassMill x = busy(b);
        String before = Bench.seen(x);
        b.due("load of nothing", x.load(), -2);
        b.stays("load of nothing", before, x);
        b.due("load with FORM", Bench.load(x, with(plain("C"), 20, 13)), -2 - 20);
        b.stays("load with FORM", before, x);
        b.due("load of a name that is there", Bench.load(x, plain("B")), -1);
        b.stays("load of a name that is there", before, x);
        b.due("load of Object", Bench.load(x, plain("Object")), -1);
        b.stays("load of Object", before, x);
        b.due("and it goes on", x.run(1), 1);
    }

    private static void refusedKeep(Bench b) {
        ClassMill x = busy(b);
        String before = Bench.seen(x);
        for (int k : new int[] {-1, 0, 1, 2, 8, Integer.MAX_VALUE, Integer.MIN_VALUE}) {
            b.due("keep(" + k + ")", x.keep(k), -1);
        }
        b.stays("keep", before, x);
        b.due("and it goes on", x.run(1), 1);
    }

    /** "(which isn't verified then, its run is gone)", for load and for keep. */
    private static void loadUndoes(Bench b) {
        for (int how = 0; how < 2; how++) {
            ClassMill x = busy(b);
            Bench.compile(x, "class C{}");
            b.due("a new class", how == 0 ? Bench.load(x, plain("C")) : x.keep(0), 10);
            gone(b, x);
            b.due("start", x.start(8, 0), false);
            b.due("verify", x.verify(), 0);
            b.due("start", x.start(8, 0), true);
        }
    }

    private static void gone(Bench b, ClassMill x) {
        int[] none = {0, -1, 0, 0, 0, 0, 0, -1, -1, -1, -1};
        for (int what = 0; what < none.length; what++) {
            b.due("look(" + what + ") without a run", x.look(what), none[what]);
        }
        b.due("look(12)", x.look(12), 0);
        b.due("out(0)", x.out(0), 0);
        b.due("run", x.run(1), 0);
    }

    /** "Byte i of what class c (from 8 on) of the SPACE was LOADED from" */
    private static void patchBounds(Bench b) {
        ClassMill x = new ClassMill();
        for (int c : new int[] {7, 8, 9, 0, -1}) {
            b.due("patch of none " + c, x.patch(c, 0, 74), false);
        }
        Bench.load(x, plain("A"));
        Bench.load(x, plain("B"));
        int size = x.type(8, 3);
        b.due("the first byte", x.patch(8, 0, 74), true);
        b.due("the last byte", x.patch(8, size - 1, 0), true);
        b.due("of the last class", x.patch(9, size - 1, 0), true);
        int[] places = {-1, -2, size, size + 1, 6000, Integer.MIN_VALUE, Integer.MAX_VALUE};
        for (int i : places) {
            b.due("byte " + i, x.patch(8, i, 0), false);
            b.due("byte " + i, x.patch(8, i, 74), false);
        }
        int[] classes = {-1, 0, 1, 7, 10, 15, 16, Integer.MIN_VALUE, Integer.MAX_VALUE};
        for (int c : classes) {
            b.due("class " + c, x.patch(c, 0, 74), false);
        }
        x.clear();
        b.due("behind clear", x.patch(8, 0, 74), false);
    }

    /** "becomes v (its lowest eight bits)" */
    private static void patchBits(Bench b) {
        ClassMill x = new ClassMill();
        Bench.load(x, plain("A"));
        int[] values = {74, 74 + 256, 74 - 256, 74 + 65536, Integer.MIN_VALUE + 74, Integer.MAX_VALUE - 255 + 74};
        for (int v : values) {
            b.due("patch of 0 with " + v, x.patch(8, 0, v), true);
        }
        int[] others = {73, 75, 0, -1, 256, 74 + 128, Integer.MAX_VALUE, Integer.MIN_VALUE};
        for (int v : others) {
            b.due("patch of 0 with " + v, x.patch(8, 0, v), false);
        }
        b.due("a name from above", x.patch(8, 5, 0x7fffff00 + 'C'), true);
        b.due("C is there", Bench.load(x, plain("C")), -1);
        b.due("A is not", Bench.load(x, plain("A")), 9);
        // bytes from 128 on: an INT, and CODE
        ClassMill y = new ClassMill();
        byte[] row = Bench.method(1, 12, 1, 0, new int[] {18, 9, 172}, EMPTY, NO_FRAMES);
        Bench.load(y, row);
        int at = 3 + 3 + 2 + 8 + 2 + 7 + 2 + 4 + 2 + 1;
        b.due("the highest byte of an INT", y.patch(8, at, -1), true);
        b.due("verify", y.verify(), 0);
        b.due("start", y.start(8, 0), true);
        b.due("run", y.run(10), 2);
        b.due("given", y.look(1), -1);
    }

    /** "if it is an IMAGE then, of a name that no other class has" */
    private static void patchNames(Bench b) {
        ClassMill x = new ClassMill();
        for (String name : new String[] {"A", "B", "C"}) {
            Bench.load(x, plain(name));
        }
        for (int c = 8; c < 11; c++) {
            for (int letter = 'A'; letter < 'D'; letter++) {
                b.due("class " + c + " named " + (char) letter, x.patch(c, 5, letter), letter - 'A' == c - 8);
            }
        }
        b.due("a new name", x.patch(9, 5, 'D'), true);
        b.due("the old one for another", x.patch(10, 5, 'B'), true);
        b.due("and back no more", x.patch(9, 5, 'B'), false);
        b.due("the name of none now", x.patch(8, 5, 'C'), true);
        ClassMill y = new ClassMill();
        String[] names = {"Objec0", "Faul0", "NullFaul0", "IndexFaul0", "ArithFaul0", "CastFaul0", "SizeFaul0", "StoreFaul0"};
        for (int k = 0; k < names.length; k++) {
            b.due("load", Bench.load(y, plain(names[k])), 8 + k);
            b.due("the name of " + k, y.patch(8 + k, 4 + names[k].length(), 't'), false);
            b.due("another", y.patch(8 + k, 4 + names[k].length(), 'u'), true);
        }
    }

    /** "false without such, nothing is done" */
    private static void patchRefused(Bench b) {
        ClassMill x = busy(b);
        String before = Bench.seen(x);
        int size = x.type(8, 3);
        b.due("no IMAGE", x.patch(8, 1, 0), false);
        b.due("the name of another", x.patch(8, 5, 'B'), false);
        b.due("no name", x.patch(8, 5, '1'), false);
        b.due("a count", x.patch(8, size - 1, 1), false);
        b.due("no byte", x.patch(8, size, 0), false);
        b.due("no class", x.patch(10, 0, 74), false);
        b.due("class 7", x.patch(7, 0, 74), false);
        b.stays("patch", before, x);
        b.due("and it goes on", x.run(1), 1);
        // a byte that was refused is as it was
        b.due("verify", x.verify(), 0);
        b.due("patch", x.patch(8, 0, 74), true);
        b.due("verify", x.verify(), 0);
        // and an accepted one, be it the same, undoes
        ClassMill y = busy(b);
        b.due("the same byte", y.patch(9, 0, 74), true);
        gone(b, y);
        b.due("start", y.start(8, 0), false);
        b.due("verify", y.verify(), 0);
        b.due("start", y.start(8, 0), true);
    }

    /** What a patch changes is as if the class had been LOADED so. */
    private static void patchIsRead(Bench b) {
        ClassMill x = new ClassMill();
        Bench.Row row = head(8).text("x").text("I").text("m").text("()V");
        int at = row.size();
        Bench.load(x, row.put(2, 4, 1, 5, 6, 1, 0, 7, 8, 1, 2, 0, 1, 177, 0, 0).bytes());
        b.due("verify", x.verify(), 0);
        b.due("not static", x.start(8, 0), false);
        b.due("static", x.patch(8, at + 6, 1), true);
        b.due("verify", x.verify(), 0);
        b.due("start", x.start(8, 0), true);
        b.due("LOCALS 0", x.patch(8, at + 10, 0), true);
        b.due("static no more, with LOCALS 0", x.patch(8, at + 6, 0), false);
        b.due("LOCALS 30", x.patch(8, at + 10, 30), true);
        b.due("LOCALS 31", x.patch(8, at + 10, 31), false);
        b.due("static no more", x.patch(8, at + 6, 0), true);
        b.due("verify", x.verify(), 0);
        b.due("not static", x.start(8, 0), false);
        // fields and methods are counted anew each time
        b.due("fields", x.type(8, 1), 1);
        b.due("methods", x.type(8, 2), 1);
        b.due("constants", x.type(8, 4), 8);
        b.due("extends itself", x.patch(8, at + 1, 2), true);
        b.due("type(8, 0)", x.type(8, 0), 8);
        b.due("verify", x.verify(), 3);
        b.due("extends Object", x.patch(8, at + 1, 4), true);
        b.due("type(8, 0)", x.type(8, 0), 0);
        b.due("the field's name is m", x.patch(8, at + 3, 7), true);
        b.due("verify", x.verify(), 0);
        // STACK: 4 186 needs one
        ClassMill y = new ClassMill();
        Bench.load(y, Bench.method(1, 11, 1, 0, new int[] {4, 186, 177}, EMPTY, NO_FRAMES));
        int stack = Bench.constants().size() + 6 + 3;
        b.due("verify", y.verify(), 0);
        b.due("STACK 0", y.patch(8, stack, 0), true);
        b.due("verify", y.verify(), 12);
        b.due("STACK 1", y.patch(8, stack, 1), true);
        b.due("verify", y.verify(), 0);
    }

    /** The IMAGE of the text stays as it is, and may be kept again when the SPACE is clear. */
    private static void patchIsOfTheSpace(Bench b) {
        ClassMill x = new ClassMill();
        Bench.compile(x, "class A{static int m(){return 3;}}");
        x.keep(0);
        int code = x.image(0, -1) - 4;
        b.due("CODE", x.image(0, code), 6);
        b.due("patch", x.patch(8, code, 8), true);
        b.due("patch", x.patch(8, 5, 'B'), true);
        b.due("the IMAGE", x.image(0, code), 6);
        b.due("the IMAGE", x.image(0, 5), 'A');
        b.due("keep", x.keep(0), 9);
        b.due("verify", x.verify(), 0);
        x.start(8, 0);
        x.run(5);
        b.due("the patched one", x.look(1), 5);
        x.start(9, 0);
        x.run(5);
        b.due("the other one", x.look(1), 3);
        // what was brought by the tape is not the tape's any more
        ClassMill y = new ClassMill();
        Bench.load(y, plain("A"));
        Bench.tape(y, Bench.bytes("#".repeat(40)));
        b.due("patch", y.patch(8, 0, 74), true);
        b.due("verify", y.verify(), 0);
    }

    /** "The SPACE has 0 to 7 alone; its run is gone." */
    private static void clearing(Bench b) {
        ClassMill x = busy(b);
        x.feed(1, 2, 3, 4, 5);
        x.clear();
        gone(b, x);
        b.due("look(11)", x.look(11), 0);
        b.due("tape", x.look(13), 20);
        for (int c = 8; c < 16; c++) {
            b.due("type(" + c + ", 0)", x.type(c, 0), -1);
        }
        b.due("type(7, 0)", x.type(7, 0), 1);
        b.due("start", x.start(8, 0), false);
        b.due("patch", x.patch(8, 0, 74), false);
        b.due("images stay", x.image(1, 5), 'B');
        x.clear();
        b.due("keep of what extends one that is gone", x.keep(1), 8);
        b.due("type(8, 0)", x.type(8, 0), -1);
        b.due("verify", x.verify(), 3);
        b.due("keep", x.keep(0), 9);
        b.due("verify", x.verify(), 0);
    }

    /** Class K, which extends L or Object, and class L with a method that gives back a K as an L. */
    private static byte[] kOrL(boolean k, boolean extendsL) {
        Bench.Row row = new Bench.Row().put(74, 77, 8).text(k ? "K" : "L").put(3, 1).text("Object").put(3, 3).text(k ? "L" : "K").put(3, 5).text("m").text("()LL;");
        if (k) {
            return row.put(2, extendsL ? 6 : 4, 0, 0).bytes();
        }
        return row.put(2, 4, 0, 1, 1, 7, 8, 1, 0, 0, 3, 187, 6, 176, 0, 0).bytes();
    }

    /** What a class extended before it was patched, or one of its number before clear(), is no matter. */
    private static void fitsAnew(Bench b) {
        ClassMill x = new ClassMill();
        int at = kOrL(true, true).length - 3;
        Bench.load(x, kOrL(true, true));
        Bench.load(x, kOrL(false, false));
        b.due("K extends L", x.verify(), 0);
        b.due("patch", x.patch(8, at, 4), true);
        b.due("type(8, 0)", x.type(8, 0), 0);
        b.due("K extends Object", x.verify(), 12);
        b.due("where", x.where(0) * 100 + x.where(2), 902);
        b.due("patch", x.patch(8, at, 6), true);
        b.due("K extends L", x.verify(), 0);
        b.due("start", x.start(9, 0), true);
        b.due("run", x.run(9), 2);
        b.due("given", x.look(1), 8);
        x.clear();
        Bench.load(x, kOrL(true, false));
        Bench.load(x, kOrL(false, false));
        b.due("K extends Object behind clear", x.verify(), 12);
        b.due("where", x.where(0) * 100 + x.where(2), 902);
    }

    /** "0 .., 1 fields, 2 methods, 3 bytes, 4 constants. NONE without." */
    private static void typeBounds(Bench b) {
        ClassMill x = new ClassMill();
        int[] classes = {-1, 8, 9, 15, 16, 100, 200, Integer.MIN_VALUE, Integer.MAX_VALUE};
        int[] others = {-1, 5, 6, Integer.MIN_VALUE, Integer.MAX_VALUE};
        for (int c : classes) {
            for (int what = 0; what < 5; what++) {
                b.due("type(" + c + ", " + what + ")", x.type(c, what), -1);
            }
        }
        for (int c = 0; c < 8; c++) {
            for (int what = 1; what < 5; what++) {
                b.due("type(" + c + ", " + what + ")", x.type(c, what), 0);
            }
            for (int what : others) {
                b.due("type(" + c + ", " + what + ")", x.type(c, what), -1);
            }
        }
        Bench.load(x, plain("A"));
        b.due("fields", x.type(8, 1), 0);
        b.due("methods", x.type(8, 2), 0);
        b.due("bytes", x.type(8, 3), 22);
        b.due("constants", x.type(8, 4), 4);
        for (int what : others) {
            b.due("type(8, " + what + ")", x.type(8, what), -1);
        }
        b.due("type(9, 1)", x.type(9, 1), -1);
        b.due("type(7, 1)", x.type(7, 1), 0);
    }

    /** "0 what it extends (NONE: not there, or of 0)" */
    private static void typeAbove(Bench b) {
        ClassMill x = new ClassMill();
        b.due("of 0", x.type(0, 0), -1);
        b.due("of 1", x.type(1, 0), 0);
        b.due("of 7", x.type(7, 0), 1);
        Bench.compile(x, "class A extends B{}class B extends C{}class C extends StoreFault{}");
        x.keep(0);
        b.due("not there", x.type(8, 0), -1);
        x.keep(2);
        b.due("not there yet", x.type(8, 0), -1);
        b.due("one of 0 to 7", x.type(9, 0), 7);
        x.keep(1);
        b.due("there now", x.type(8, 0), 10);
        b.due("one before", x.type(10, 0), 9);
        b.due("patched away", x.patch(10, 5, 'D'), true);
        b.due("not there", x.type(8, 0), -1);
        b.due("patched back", x.patch(10, 5, 'B'), true);
        b.due("there again", x.type(8, 0), 10);
    }
}
