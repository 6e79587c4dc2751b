import java.util.Random;

/** No call throws or fails to end, what a text gives is verified, and what has been verified never gets stuck. */
public final class FuzzTest {
    private static final String[] TEXTS = {
        "class A{int x;A n;int[] r;static A s(int n){A a=new A();a.x=n;a.r=new int[n+2];if(n>0)a.n=s(n-1);return a;}"
            + "int sum(){int t=x;int i=0;while(i<r.length){r[i]=i*x;t=t+r[i];i=i+1;}return n==null?t:t+n.sum();}"
            + "static int m(){return s(5).sum();}}",
        "class E extends Fault{int c;}class A{boolean b;Object o;A[] a;void p(boolean z,int n){b=z&&!b||n>3;a=new A[n];a[0]=this;o=a;}"
            + "static void m(){A x=new A();int i=3;while(true){try{x.p(i%2==0,i);print(x.b);print(x.o instanceof A);i=i-1;"
            + "if(i<0){E e=new E();e.c=9;throw e;}}catch(IndexFault f){print(77);}q();}}static void q(){}}",
        "class S{int f(){return 1;}int g(){return f()<<2;}}class T extends S{int f(){return 2;}}class U extends T{int y;int f(){return y;}}"
            + "class M{static void m(){S[] s=new S[3];s[0]=new S();s[1]=new T();U u=new U();u.y=7;s[2]=u;int i=0;while(i<=3){print(s[i].g());"
            + "Object o=s[i];U v=o instanceof U?(U)o:null;print(v==null?-1:v.y);i=i+1;}}}",
        "class A{static int f(int n){try{if(n<1)return 10/n;return f(n-1)+1;}catch(ArithFault e){throw new SizeFault();}}"
            + "static boolean m(){int k=0;try{k=f(4);}catch(Fault e){k=~k>>>3^5&k|1;print(k);}boolean z=true;"
            + "while(z?k>0:false){k=k/2;if(k==3)break;z=k!=1;}return z;}}"};

    private final Random random = new Random(20261116);
    private final Bench bench = new Bench("FuzzTest");

    public static void main(String[] args) {
        FuzzTest test = new FuzzTest();
        for (String text : TEXTS) {
            test.whole(text);
            for (int i = 0; i < 400; i++) {
                test.changedText(text);
                test.changedImages(text);
            }
        }
        for (int i = 0; i < 500; i++) {
            test.anyCalls();
        }
        test.bench.end();
    }

    private int pick(int... values) {
        return values[random.nextInt(values.length)];
    }

    private void whole(String text) {
        ClassMill mill = bench.brought(text);
        for (int c = 8; c < 8 + mill.look(11); c++) {
            for (int m = 0; m < mill.type(c, 2); m++) {
                steps(mill, c, m);
            }
        }
    }

    private void steps(ClassMill mill, int c, int m) {
        if (mill.start(c, m)) {
            int done = 0;
            for (int turn = 0; turn < 5 && mill.look(0) == 1; turn++) {
                done += mill.run(1 + random.nextInt(2000));
            }
            bench.due("steps", mill.look(2), done);
            bench.due("stuck", mill.look(0) == 6 || mill.look(0) == 0, false);
        }
    }

    private void changedText(String text) {
        StringBuilder row = new StringBuilder(text);
        for (int n = random.nextInt(3); n >= 0; n--) {
            int at = random.nextInt(row.length());
            int other = random.nextInt(row.length());
            switch (random.nextInt(4)) {
                case 0:
                    row.deleteCharAt(at);
                    break;
                case 1:
                    row.setCharAt(at, row.charAt(other));
                    break;
                case 2:
                    row.insert(at, row.substring(Math.min(other, row.length() - 3), Math.min(other, row.length() - 3) + 3));
                    break;
                default:
                    row.setCharAt(at, (char) random.nextInt(256));
                    break;
            }
        }
        ClassMill mill = new ClassMill();
        int images = Bench.compile(mill, row.toString());
        bench.due("fault", mill.fault(0) == 0, images > 0);
        bench.due("place", mill.fault(1) == -1, images > 0);
        bench.due("place in " + row, mill.fault(1) <= row.length(), true);
        for (int k = 0; k < images; k++) {
            bench.due("keep of " + row, mill.keep(k), 8 + k);
        }
        bench.due("verify of " + row, mill.verify(), 0);
    }

    private void changedImages(String text) {
        ClassMill mill = new ClassMill();
        int images = Bench.compile(mill, text);
        for (int k = 0; k < images; k++) {
            mill.keep(k);
        }
        for (int n = 0; n < 12; n++) {
            int c = 8 + random.nextInt(images);
            int i = random.nextInt(mill.type(c, 3));
            int before = mill.image(c - 8, i);
            int value = pick(random.nextInt(256), before + 1, before - 1, mill.image(c - 8, random.nextInt(mill.type(c, 3))));
            if (mill.patch(c, i, value)) {
                int number = mill.verify();
                bench.due("number", number == 0 || (number >= 3 && number <= 12), true);
                for (int m = 0; m < mill.type(c, 2) && number == 0; m++) {
                    steps(mill, c, m);
                }
                if (number != 0) {
                    bench.due("start", mill.start(c, 0), false);
                    bench.due("back", mill.patch(c, i, before), true);
                }
            }
        }
    }

    private int any() {
        return pick(0, 1, -1, 2, 3, 7, 8, 9, 15, 16, 1000, 20000, Integer.MAX_VALUE, Integer.MIN_VALUE, random.nextInt(), random.nextInt(100));
    }

    private void anyCalls() {
        ClassMill mill = new ClassMill();
        Bench.compile(mill, TEXTS[random.nextInt(TEXTS.length)]);
        for (int call = 0; call < 230; call++) {
            switch (random.nextInt(18)) {
                case 0:
                    mill.feed(any(), any(), any(), any(), any());
                    break;
                case 1:
                    mill.end(any());
                    break;
                case 2:
                    mill.compile();
                    break;
                case 3:
                    mill.fault(any());
                    break;
                case 4:
                    mill.image(any(), any());
                    break;
                case 5:
                    mill.load();
                    break;
                case 6:
                    mill.keep(random.nextInt(4));
                    break;
                case 7:
                    mill.patch(8 + random.nextInt(3), random.nextInt(300), random.nextInt(256));
                    break;
                case 8:
                    mill.patch(any(), any(), any());
                    break;
                case 9:
                    mill.verify();
                    break;
                case 10:
                    mill.where(any());
                    break;
                case 11:
                    mill.start(8 + random.nextInt(3), random.nextInt(3));
                    break;
                case 12:
                    mill.start(any(), any());
                    break;
                case 13:
                    mill.run(any());
                    break;
                case 14:
                    mill.look(any());
                    break;
                case 15:
                    mill.out(any());
                    break;
                case 16:
                    mill.type(any(), any());
                    break;
                default:
                    if (random.nextInt(10) == 0) {
                        mill.clear();
                    }
                    break;
            }
            bench.due("stuck", mill.look(0) == 6, false);
        }
    }
}
