/** The boundary sentences of promises 1 to 3, and what of 4 to 7 is about the tape. */
public final class EdgeTapeTest {
    public static void main(String[] args) {
        Bench b = new Bench("EdgeTapeTest");
        nothingAtAll(b);
        objectsApart(b);
        twentyBytes(b);
        highestFirst(b);
        howManyThereAre(b);
        notMoreThan6000(b);
        refusedFeedDoesNothing(b);
        endTakesUpToAll(b);
        endRefuses(b);
        firstBytesAlone(b);
        firstBytesAloneOfAnImage(b);
        emptyBehindCompile(b);
        emptyBehindLoad(b);
        othersLeaveTheTape(b);
        b.end();
    }

    private static final String TWENTY = "class Abcdefghijkl{}";

    private static void feedTwenty(ClassMill x) {
        Bench.tape(x, Bench.bytes(TWENTY));
    }

    /** "An empty tape, no images, a SPACE with 0 to 7 alone." */
    private static void nothingAtAll(Bench b) {
        ClassMill x = new ClassMill();
        b.due("look(13)", x.look(13), 0);
        b.due("look(11)", x.look(11), 0);
        b.due("look(12)", x.look(12), 0);
        for (int k = -1; k <= 1; k++) {
            b.due("image(" + k + ", -1)", x.image(k, -1), -1);
            b.due("image(" + k + ", 0)", x.image(k, 0), -1);
            b.due("keep(" + k + ")", x.keep(k), -1);
        }
        int[] above = {-1, 0, 1, 1, 1, 1, 1, 1};
        for (int c = 0; c < 8; c++) {
            b.due("type(" + c + ", 0)", x.type(c, 0), above[c]);
            b.due("type(" + c + ", 1)", x.type(c, 1), 0);
            b.due("type(" + c + ", 2)", x.type(c, 2), 0);
        }
        for (int what = 0; what < 5; what++) {
            b.due("type(8, " + what + ")", x.type(8, what), -1);
            b.due("type(-1, " + what + ")", x.type(-1, what), -1);
        }
        b.due("patch", x.patch(8, 0, 74), false);
        b.due("start", x.start(8, 0), false);
        b.due("run", x.run(20000), 0);
        b.due("out", x.out(0), 0);
        b.due("where", x.where(0) + x.where(1) + x.where(2), -3);
        b.due("load of nothing", x.load(), -2);
        b.due("compile of nothing", x.compile(), -1);
        b.due("its FAULT", x.fault(0) * 10 + x.fault(1), 20);
        x.clear();
        b.due("verify of nothing", x.verify(), 0);
        b.due("look(12)", x.look(12), 1);
    }

    private static void objectsApart(Bench b) {
        ClassMill x = new ClassMill();
        ClassMill y = new ClassMill();
        feedTwenty(x);
        b.due("another's tape", y.look(13), 0);
        b.due("compile", x.compile(), 1);
        b.due("another's images", y.image(0, -1), -1);
        b.due("keep", x.keep(0), 8);
        b.due("another's space", y.look(11), 0);
        b.due("one made later", new ClassMill().look(11), 0);
    }

    /** "Twenty bytes come behind those on the tape": all five numbers, in their order. */
    private static void twentyBytes(Bench b) {
        ClassMill x = new ClassMill();
        feedTwenty(x);
        b.due("compile of twenty bytes", x.compile(), 1);
        for (int i = 0; i < 12; i++) {
            b.due("letter " + i, x.image(0, 5 + i), TWENTY.charAt(6 + i));
        }
        feedTwenty(x);
        feedTwenty(x);
        b.due("twice the same class", x.compile(), -1);
        b.due("FAULT", x.fault(0), 4);
        b.due("behind those on the tape", x.fault(1), 26);
    }

    /** "of each number the highest first", and bytes from 128 on are none of a letter's. */
    private static void highestFirst(Bench b) {
        int[] words = {0x636c6173, 0x7320417b, 0x7d202020, 0x20202020, 0x20202020};
        for (int place = 0; place < 20; place++) {
            int[] n = words.clone();
            n[place / 4] = n[place / 4] & ~(255 << 24 - 8 * (place % 4)) | 128 + place << 24 - 8 * (place % 4);
            ClassMill x = new ClassMill();
            b.due("feed", x.feed(n[0], n[1], n[2], n[3], n[4]), 20);
            b.due("compile", x.compile(), -1);
            b.due("FAULT of " + place, x.fault(0), 1 + (place > 0 && place < 5 ? 1 : 0));
            b.due("PLACE of " + place, x.fault(1), place > 0 && place < 5 ? 0 : place);
        }
        ClassMill y = new ClassMill();
        b.due("all bits", y.feed(-1, Integer.MIN_VALUE, Integer.MAX_VALUE, 0, 1), 20);
        b.due("load", y.load(), -2);
    }

    /** "how many there are" */
    private static void howManyThereAre(Bench b) {
        ClassMill x = new ClassMill();
        b.due("the first", x.feed(0, 0, 0, 0, 0), 20);
        b.due("the second", x.feed(0, 0, 0, 0, 0), 40);
        x.end(1);
        b.due("behind one", x.feed(0, 0, 0, 0, 0), 21);
        x.end(0);
        b.due("behind none", x.feed(0, 0, 0, 0, 0), 20);
        b.due("look(13)", x.look(13), 20);
    }

    /** "NONE .. when there would be more than 6,000": from 5,980 on there is room, from 5,981 on none. */
    private static void notMoreThan6000(Bench b) {
        ClassMill x = new ClassMill();
        for (int i = 1; i < 300; i++) {
            x.feed(0, 0, 0, 0, 0);
        }
        b.due("5980 bytes", x.look(13), 5980);
        b.due("6000 bytes", x.feed(0, 0, 0, 0, 0), 6000);
        b.due("one more feed", x.feed(0, 0, 0, 0, 0), -1);
        b.due("6000 stay", x.look(13), 6000);
        int[] left = {5999, 5990, 5981};
        for (int n : left) {
            b.due("end(" + n + ")", x.end(n), true);
            b.due("feed at " + n, x.feed(0, 0, 0, 0, 0), -1);
            b.due("look(13)", x.look(13), n);
        }
        b.due("end(5980)", x.end(5980), true);
        b.due("feed at 5980", x.feed(0, 0, 0, 0, 0), 6000);
        b.due("end(5979)", x.end(5979), true);
        b.due("feed at 5979", x.feed(0, 0, 0, 0, 0), 5999);
    }

    /** "NONE, doing nothing": the bytes that are there stay as they are. */
    private static void refusedFeedDoesNothing(Bench b) {
        ClassMill x = new ClassMill();
        feedTwenty(x);
        for (int i = 1; i < 300; i++) {
            x.feed(0x20202020, 0x20202020, 0x20202020, 0x20202020, 0x20202020);
        }
        b.due("refused", x.feed(0x23232323, 0x23232323, 0x23232323, 0x23232323, 0x23232323), -1);
        b.due("end(3000)", x.end(3000), true);
        b.due("compile", x.compile(), 1);
        b.due("the first letter", x.image(0, 5), 'A');
        ClassMill y = new ClassMill();
        for (int i = 0; i < 300; i++) {
            y.feed(0x20202020, 0x20202020, 0x20202020, 0x20202020, 0x20202020);
        }
        y.end(5981);
        b.due("refused", y.feed(0x23232323, 0x23232323, 0x23232323, 0x23232323, 0x23232323), -1);
        b.due("end(19)", y.end(19), true);
        b.due("compile", y.compile(), -1);
        b.due("nothing but blanks", y.fault(0) * 100 + y.fault(1), 219);
    }

    /** "The tape has its first n bytes alone: true" */
    private static void endTakesUpToAll(Bench b) {
        ClassMill x = new ClassMill();
        b.due("end(0) of none", x.end(0), true);
        x.feed(0, 0, 0, 0, 0);
        b.due("end(20) of 20", x.end(20), true);
        b.due("look(13)", x.look(13), 20);
        b.due("end(19)", x.end(19), true);
        b.due("look(13)", x.look(13), 19);
        b.due("end(1)", x.end(1), true);
        b.due("look(13)", x.look(13), 1);
        b.due("end(0)", x.end(0), true);
        b.due("look(13)", x.look(13), 0);
    }

    /** "false when it has not so many, or n is below 0", and then nothing is done. */
    private static void endRefuses(Bench b) {
        ClassMill x = new ClassMill();
        int[] none = {1, 20, 6000, Integer.MAX_VALUE, -1, Integer.MIN_VALUE};
        for (int n : none) {
            b.due("end(" + n + ") of none", x.end(n), false);
            b.due("look(13)", x.look(13), 0);
        }
        feedTwenty(x);
        int[] more = {21, 6001, Integer.MAX_VALUE, -1, -20, Integer.MIN_VALUE};
        for (int n : more) {
            b.due("end(" + n + ") of 20", x.end(n), false);
            b.due("look(13)", x.look(13), 20);
        }
        b.due("compile", x.compile(), 1);
    }

    /** The text is put on the tape with the rest behind it; then its own bytes alone are left. */
    private static ClassMill cut(String text, String rest) {
        ClassMill x = new ClassMill();
        Bench.tape(x, Bench.bytes(text + rest));
        x.end(text.length());
        return x;
    }

    private static void fault(Bench b, String text, String rest, int fault, int place) {
        ClassMill x = cut(text, rest);
        b.due("compile of " + text + " without " + rest, x.compile(), -1);
        b.due("FAULT of " + text + " without " + rest, x.fault(0), fault);
        b.due("PLACE of " + text + " without " + rest, x.fault(1), place);
    }

    /** "its first n bytes alone": what stood behind them is no part of any token. */
    private static void firstBytesAlone(Bench b) {
        fault(b, "class A{}/", "/", 2, 9);
        fault(b, "class A{int a", ";}", 2, 13);
        fault(b, "class A{}class", "es", 2, 14);
        fault(b, "class A{}class B", "bcdefghijklm", 2, 16);
        String head = "class A{void m(){";
        String[] signs = {"=", "<", ">", "&", "|"};
        for (String sign : signs) {
            fault(b, head + "x" + sign, sign + "=", 2, head.length() + 2);
        }
        // alone these can't stand there, with what stood behind they could
        fault(b, head + "x!", "=1;}}", 2, head.length() + 1);
        fault(b, head + "x=1=", "=1;}}", 2, head.length() + 3);
        fault(b, head + "x=1>>", ">1;}}", 2, head.length() + 5);
        fault(b, head + "x=2147483647", "0;}}", 2, head.length() + 12);
        fault(b, head + "x=0", "1", 2, head.length() + 3);
        fault(b, head + "x=1", "a", 2, head.length() + 3);
        b.due("a remark that goes on", cut("class A{}//", "\n#").compile(), 1);
        b.due("nothing behind", cut("class A{}", "}").compile(), 1);
        // and what comes later stands in its place
        ClassMill x = cut("class A", "{}#############");
        Bench.tape(x, Bench.bytes("9{}"));
        b.due("another rest", x.compile(), 1);
        b.due("the name's length", x.image(0, 4), 2);
    }

    private static void firstBytesAloneOfAnImage(Bench b) {
        byte[] row = new Bench.Row().put(74, 77, 4).text("A").put(3, 1).text("Object").put(3, 3).put(2, 4, 0, 0).bytes();
        for (int n = 0; n <= row.length; n++) {
            ClassMill x = new ClassMill();
            Bench.tape(x, row);
            x.feed(0, 0, 0, 0, 0);
            x.end(n);
            b.due("load of " + n + " bytes", x.load(), n == row.length ? 8 : -2 - n);
        }
        ClassMill y = new ClassMill();
        Bench.tape(y, row);
        y.feed(0, 0, 0, 0, 0);
        y.end(row.length + 1);
        b.due("one byte behind", y.load(), -2 - row.length);
    }

    /** "The tape, which is empty then, is a TEXT", be there a FAULT or not. */
    private static void emptyBehindCompile(Bench b) {
        String[] texts = {"class A{}", "class A{", "#", " ".repeat(3001), " ".repeat(6000)};
        for (String text : texts) {
            ClassMill x = new ClassMill();
            Bench.compile(x, text);
            b.due("tape behind compile of " + text.trim(), x.look(13), 0);
            b.due("end(1)", x.end(1), false);
            b.due("feed", x.feed(0, 0, 0, 0, 0), 20);
        }
    }

    /** "The tape, which is empty then, is LOADED", whatever the answer is. */
    private static void emptyBehindLoad(Bench b) {
        byte[] row = new Bench.Row().put(74, 77, 4).text("A").put(3, 1).text("Object").put(3, 3).put(2, 4, 0, 0).bytes();
        ClassMill x = new ClassMill();
        int[] answers = {8, -1, -2};
        for (int answer : answers) {
            b.due("load", answer == -2 ? x.load() : Bench.load(x, row), answer);
            b.due("tape behind load", x.look(13), 0);
        }
        Bench.tape(x, row);
        x.end(row.length - 1);
        b.due("load of a part", x.load(), -2 - (row.length - 1));
        b.due("tape behind load", x.look(13), 0);
    }

    private static void othersLeaveTheTape(Bench b) {
        ClassMill x = new ClassMill();
        Bench.compile(x, "class A{static void m(){}}");
        feedTwenty(x);
        x.keep(0);
        x.keep(1);
        x.patch(8, 0, 74);
        x.patch(8, 0, 75);
        x.verify();
        x.start(8, 0);
        x.run(5);
        x.run(0);
        x.fault(0);
        x.image(0, -1);
        x.where(0);
        x.look(0);
        x.out(0);
        x.type(8, 0);
        x.clear();
        b.due("look(13)", x.look(13), 20);
        b.due("compile", x.compile(), 1);
        b.due("image", x.image(0, 4), 12);
    }
}
