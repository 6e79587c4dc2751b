import java.util.ArrayList;
import java.util.List;

/** What the tests share: texts and images brought to a ClassMill, and answers held against those that are due. */
final class Bench {
    private final String name;
    private int wrong;
    private int asked;

    Bench(String name) {
        this.name = name;
    }

    void due(String what, long got, long want) {
        asked++;
        if (got != want) {
            wrong++;
            String shown = what.length() > 300 ? what.substring(0, 300) + " .." : what;
            System.out.println(name + ": " + shown + " answered " + got + ", due is " + want);
        }
    }

    void due(String what, boolean got, boolean want) {
        due(what, got ? 1 : 0, want ? 1 : 0);
    }

    void end() {
        System.out.println(name + ": " + asked + " answers, " + wrong + " wrong");
        if (wrong != 0) {
            System.exit(1);
        }
    }

    static byte[] bytes(String text) {
        byte[] row = new byte[text.length()];
        for (int i = 0; i < row.length; i++) {
            row[i] = (byte) text.charAt(i);
        }
        return row;
    }

    static void tape(ClassMill mill, byte[] row) {
        int before = mill.look(13);
        for (int i = 0; i < row.length; i += 20) {
            int[] n = new int[5];
            for (int k = 0; k < 20; k++) {
                int value = i + k < row.length ? row[i + k] & 255 : 0;
                n[k / 4] |= value << 24 - 8 * (k % 4);
            }
            mill.feed(n[0], n[1], n[2], n[3], n[4]);
        }
        mill.end(before + row.length);
    }

    static int compile(ClassMill mill, String text) {
        tape(mill, bytes(text));
        return mill.compile();
    }

    /** A text that has the FAULT at the place where the mark stands in it; the mark itself is left out. */
    void fault(int fault, String marked) {
        int place = marked.indexOf('@');
        String text = marked.substring(0, place) + marked.substring(place + 1);
        ClassMill mill = new ClassMill();
        due("compile of " + marked, compile(mill, text), ClassMill.NONE);
        due("fault of " + marked, mill.fault(0), fault);
        due("place of " + marked, mill.fault(1), place);
    }

    void right(String text, int images) {
        ClassMill mill = new ClassMill();
        due("compile of " + text, compile(mill, text), images);
        due("fault of " + text, mill.fault(0), 0);
        due("place of " + text, mill.fault(1), ClassMill.NONE);
        for (int k = 0; k < images; k++) {
            due("keep " + k + " of " + text, mill.keep(k), 8 + k);
            if (k < mill.look(11)) {
                new Made(image(text, k)).hold(this, text);
            }
        }
        due("verify of " + text, mill.verify(), 0);
    }

    static byte[] image(ClassMill mill, int k) {
        byte[] row = new byte[mill.image(k, ClassMill.NONE)];
        for (int i = 0; i < row.length; i++) {
            row[i] = (byte) mill.image(k, i);
        }
        return row;
    }

    /** An IMAGE of any length, asked of as many mills as it takes: none is promised to answer behind its 512th call. */
    static byte[] image(String text, int k) {
        ClassMill mill = new ClassMill();
        compile(mill, text);
        byte[] row = new byte[Math.max(0, mill.image(k, ClassMill.NONE))];
        for (int i = 0; i < row.length; i++) {
            if (i % 300 == 299) {
                mill = new ClassMill();
                compile(mill, text);
            }
            row[i] = (byte) mill.image(k, i);
        }
        return row;
    }

    static int load(ClassMill mill, byte[] row) {
        tape(mill, row);
        return mill.load();
    }

    /** All classes of a text, brought to the space of a new mill. */
    ClassMill brought(String text) {
        ClassMill mill = new ClassMill();
        int images = compile(mill, text);
        due("fault of " + text + " at " + mill.fault(1), mill.fault(0), 0);
        for (int k = 0; k < images; k++) {
            mill.keep(k);
        }
        due("verify of " + text, mill.verify(), 0);
        return mill;
    }

    /** Begins method m of class c and steps it to its end. */
    ClassMill ran(String text, int c, int m) {
        ClassMill mill = brought(text);
        due("start of " + text, mill.start(c, m), true);
        for (int turn = 0; turn < 20 && mill.look(0) == 1; turn++) {
            mill.run(20000);
        }
        return mill;
    }

    /** All that some seventy calls tell of a mill but its tape: images, FAULT, space, where, run. */
    static String seen(ClassMill mill) {
        StringBuilder row = new StringBuilder();
        for (int what = 0; what <= 12; what++) {
            row.append(mill.look(what)).append(' ');
        }
        for (int what = 0; what < 3; what++) {
            row.append(mill.fault(what)).append(' ').append(mill.where(what)).append(' ').append(mill.out(what)).append(' ');
        }
        for (int k = 0; k < 3; k++) {
            row.append(mill.image(k, ClassMill.NONE)).append(' ').append(mill.image(k, 2)).append(' ').append(mill.image(k, 5)).append(' ');
        }
        for (int c = 8; c < 16; c++) {
            for (int what = 0; what < 5; what++) {
                row.append(mill.type(c, what)).append(' ');
            }
        }
        return row.toString();
    }

    void stays(String what, String before, ClassMill mill) {
        String behind = seen(mill);
        due(what + " leaves all as it was: " + before + "/ " + behind, behind.equals(before), true);
    }

    void printed(ClassMill mill, String text, int... values) {
        due("prints of " + text, mill.look(6), values.length);
        for (int i = 0; i < values.length; i++) {
            due("print " + i + " of " + text, mill.out(i), values[i]);
        }
    }

    /** Bytes of an image put together by hand. */
    static final class Row {
        private final List<Integer> values = new ArrayList<>();

        Row put(int... more) {
            for (int value : more) {
                values.add(value);
            }
            return this;
        }

        Row pair(int value) {
            return put(value >> 8 & 255, value & 255);
        }

        Row text(String text) {
            put(1, text.length());
            for (int i = 0; i < text.length(); i++) {
                put(text.charAt(i));
            }
            return this;
        }

        int size() {
            return values.size();
        }

        byte[] bytes() {
            byte[] row = new byte[values.size()];
            for (int i = 0; i < row.length; i++) {
                row[i] = (byte) (int) values.get(i);
            }
            return row;
        }
    }

    /**
     * The constants 1 to 17 of class A, which most tests of images begin with: 2 is the CLASS A, 4 Object, 6 Fault,
     * 8 [I, 9 an INT, 10 m, 11 ()V, 12 ()I, 13 x, 14 I, 15 the field A.x, 16 the method A.m ()V, 17 the CLASS Gone.
     */
    static Row constants() {
        Row row = new Row().put(74, 77, 18);
        row.text("A").put(3, 1).text("Object").put(3, 3).text("Fault").put(3, 5).text("[I").put(3, 7);
        row.put(2, 127, 255, 255, 255).text("m").text("()V").text("()I").text("x").text("I");
        row.put(4, 2, 13, 14).put(4, 2, 10, 11).put(3, 18).text("Gone");
        return row;
    }

    /** Class A with the field x and one method m, static or not. */
    static byte[] method(int fixed, int kind, int stack, int locals, int[] code, int[] handlers, int[] frames) {
        Row row = constants().put(2, 4, 1, 13, 14, 1, fixed, 10, kind, stack, locals).pair(code.length).put(code);
        row.put(handlers.length / 7).put(handlers);
        return row.put(frames).bytes();
    }
}
