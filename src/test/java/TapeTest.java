/** Promises 1 to 3: a new object, feed, end. */
public final class TapeTest {
    public static void main(String[] args) {
        Bench b = new Bench("TapeTest");
        newObject(b);
        feeding(b);
        ending(b);
        b.end();
    }

    private static void newObject(Bench b) {
        ClassMill x = new ClassMill();
        b.due("NONE", ClassMill.NONE, -1);
        b.due("look(13)", x.look(13), 0);
        b.due("look(11)", x.look(11), 0);
        b.due("look(12)", x.look(12), 0);
        b.due("look(0)", x.look(0), 0);
        b.due("fault(0)", x.fault(0), 0);
        b.due("fault(1)", x.fault(1), -1);
        b.due("fault(2)", x.fault(2), -1);
        b.due("image(0, -1)", x.image(0, -1), -1);
        b.due("where(0)", x.where(0), -1);
        int[] extended = {-1, 0, 1, 1, 1, 1, 1, 1, -1};
        for (int c = 0; c < extended.length; c++) {
            b.due("type(" + c + ", 0)", x.type(c, 0), extended[c]);
        }
        b.due("type(7, 1)", x.type(7, 1), 0);
        b.due("type(7, 2)", x.type(7, 2), 0);
        b.due("type(-1, 0)", x.type(-1, 0), -1);
        b.due("type(8, 1)", x.type(8, 1), -1);
        b.due("type(0, 5)", x.type(0, 5), -1);
        b.due("start(0, 0)", x.start(0, 0), false);
        b.due("run(5)", x.run(5), 0);
    }

    private static void feeding(Bench b) {
        ClassMill x = new ClassMill();
        for (int i = 1; i <= 300; i++) {
            b.due("feed " + i, x.feed(i, 0, 0, 0, 0), 20L * i);
        }
        b.due("feed beyond 6000", x.feed(1, 2, 3, 4, 5), -1);
        b.due("look(13)", x.look(13), 6000);
        b.due("end(5981)", x.end(5981), true);
        b.due("feed to 6001", x.feed(1, 2, 3, 4, 5), -1);
        b.due("look(13)", x.look(13), 5981);
        b.due("end(5980)", x.end(5980), true);
        b.due("feed to 6000", x.feed(1, 2, 3, 4, 5), 6000);
        ClassMill y = new ClassMill();
        // 'c' 'l' 'a' 's' ahead of 's': the highest byte of each number comes first
        y.feed(0x636c6173, 0x7320417b, 0x7d202020, 0x20202020, 0x20202020);
        b.due("compile", y.compile(), 1);
        b.due("look(13) behind compile", y.look(13), 0);
    }

    private static void ending(Bench b) {
        ClassMill x = new ClassMill();
        b.due("end(0)", x.end(0), true);
        b.due("end(1)", x.end(1), false);
        x.feed(0, 0, 0, 0, 0);
        b.due("end(21)", x.end(21), false);
        b.due("end(-1)", x.end(-1), false);
        b.due("end(least)", x.end(Integer.MIN_VALUE), false);
        b.due("look(13)", x.look(13), 20);
        b.due("end(20)", x.end(20), true);
        b.due("end(7)", x.end(7), true);
        b.due("look(13)", x.look(13), 7);
        b.due("end(8)", x.end(8), false);
        b.due("feed", x.feed(0, 0, 0, 0, 0), 27);
    }
}
