/** Promises 13 to 16: start, run, look, out, as section 6 has them. */
public final class RunTest {
    private static final int[] EMPTY = {};
    private static final int[] NO_FRAMES = {0};

    public static void main(String[] args) {
        Bench b = new Bench("RunTest");
        starting(b);
        stepping(b);
        looking(b);
        arithmetic(b);
        compares(b);
        objects(b);
        methods(b);
        faults(b);
        handlers(b);
        given(b);
        room(b);
        depth(b);
        printing(b);
        signs(b);
        b.end();
    }

    private static void prints(Bench b, String body, int... values) {
        String text = "class A{static void m(){" + body + "}}";
        b.printed(b.ran(text, 8, 0), text, values);
    }

    private static void starting(Bench b) {
        ClassMill x = b.brought("class A{void a(){}static void b(int n){}static void c(){}static int d(){return 7;}}");
        b.due("not static", x.start(8, 0), false);
        b.due("parameters", x.start(8, 1), false);
        b.due("none such", x.start(8, 4), false);
        b.due("none such", x.start(8, -1), false);
        b.due("none such", x.start(7, 0), false);
        b.due("none such", x.start(9, 0), false);
        b.due("none such", x.start(-1, 0), false);
        b.due("run of none", x.run(1), 0);
        b.due("start", x.start(8, 3), true);
        b.due("run", x.run(20000), 2);
        b.due("look(1)", x.look(1), 7);
        b.due("a false start", x.start(8, 0), false);
        b.due("leaves the run", x.look(0), 2);
        b.due("start", x.start(8, 2), true);
        b.due("steps", x.look(2), 0);
        b.due("look(0)", x.look(0), 1);
        b.due("look(1)", x.look(1), -1);
        ClassMill y = new ClassMill();
        Bench.compile(y, "class A{static void m(){}}");
        y.keep(0);
        b.due("not verified", y.start(8, 0), false);
    }

    private static void stepping(Bench b) {
        ClassMill x = b.brought("class A{static void m(){int n=0;while(n<100)n=n+1;print(n);}}");
        x.start(8, 0);
        b.due("run(0)", x.run(0), -1);
        b.due("run(-1)", x.run(-1), -1);
        b.due("run(20001)", x.run(20001), -1);
        b.due("look(2)", x.look(2), 0);
        b.due("run(1)", x.run(1), 1);
        b.due("run(1)", x.run(1), 1);
        b.due("look(9)", x.look(9), 3);
        b.due("run(500)", x.run(500), 500);
        // 3 54; 101 conditions, of which 100 take 21 16 161 4 153 and one 21 16 161 3 167 153; 100 times 21 4 96 54 167
        b.due("run(20000)", x.run(20000), 2 + 500 + 6 + 500 + 3 - 502);
        b.due("look(2)", x.look(2), 1011);
        b.due("look(0)", x.look(0), 2);
        b.due("run behind its end", x.run(5), 0);
        b.due("out(0)", x.out(0), 100);
    }

    private static void looking(Bench b) {
        ClassMill x = b.brought("class B{int x;int y;}class A extends B{boolean z;static int f(int n){int[] i=new int[n];return n;}"
            + "static void m(){A a=new A();B[] r=new B[5];print(f(3));print(true);}}");
        for (int what = 2; what <= 6; what++) {
            b.due("look(" + what + ") of none", x.look(what), 0);
        }
        for (int what = 7; what <= 10; what++) {
            b.due("look(" + what + ") of none", x.look(what), -1);
        }
        b.due("look(0) of none", x.look(0), 0);
        b.due("look(1) of none", x.look(1), -1);
        b.due("look(11)", x.look(11), 2);
        b.due("look(12)", x.look(12), 1);
        b.due("look(13)", x.look(13), 0);
        b.due("look(14)", x.look(14), -1);
        b.due("look(-1)", x.look(-1), -1);
        x.start(9, 1);
        int[] begun = {1, -1, 0, 0, 0, 1, 0, 9, 1, 0, 0};
        seen(b, x, begun);
        x.run(1);
        seen(b, x, new int[] {1, -1, 1, 1, 3, 1, 0, 9, 1, 2, 1});
        x.run(4);
        seen(b, x, new int[] {1, -1, 5, 2, 8, 1, 0, 9, 1, 9, 0});
        x.run(2);
        seen(b, x, new int[] {1, -1, 7, 2, 8, 2, 0, 9, 0, 0, 0});
        x.run(2);
        seen(b, x, new int[] {1, -1, 9, 3, 11, 2, 0, 9, 0, 4, 1});
        x.run(3);
        seen(b, x, new int[] {1, -1, 12, 3, 11, 1, 0, 9, 1, 12, 1});
        x.run(1);
        seen(b, x, new int[] {1, -1, 13, 3, 11, 1, 1, 9, 1, 13, 0});
        x.run(100);
        seen(b, x, new int[] {2, -1, 16, 3, 11, 0, 2, -1, -1, -1, -1});
        b.due("out(0)", x.out(0), 3);
        b.due("out(1)", x.out(1), 1);
        b.due("out(2)", x.out(2), 0);
        b.due("out(-1)", x.out(-1), 0);
        b.due("verify", x.verify(), 0);
        b.due("stays", x.look(2), 16);
        x.clear();
        b.due("out(0) of none", x.out(0), 0);
        b.due("look(6) of none", x.look(6), 0);
    }

    private static void seen(Bench b, ClassMill x, int[] values) {
        for (int what = 0; what < values.length; what++) {
            b.due("look(" + what + ") behind " + values[2], x.look(what), values[what]);
        }
    }

    private static void arithmetic(Bench b) {
        prints(b, "int l=-2147483647-1;print(l);print(l-1);print(-l);print(l*l);print(2147483647+1);print(l/-1);print(l%-1);",
            Integer.MIN_VALUE, Integer.MAX_VALUE, Integer.MIN_VALUE, 0, Integer.MIN_VALUE, Integer.MIN_VALUE, 0);
        prints(b, "print(7/2);print(-7/2);print(7/-2);print(7%3);print(-7%3);print(7%-3);print(-7%-3);", 3, -3, -3, 1, -1, 1, -1);
        prints(b, "int l=-2147483647-1;print(1<<31);print(1<<32);print(1<<33);print(1<<-1);print(l>>31);print(l>>>31);print(l>>>32);print(-8>>1);print(-8>>>28);",
            Integer.MIN_VALUE, 1, 2, Integer.MIN_VALUE, -1, 1, Integer.MIN_VALUE, -4, 15);
        prints(b, "print(12&10);print(12|10);print(12^10);print(~12);print(true&false);print(true|false);print(true^true);", 8, 14, 6, -13, 0, 1, 0);
        prints(b, "print(0);print(5);print(6);print(127);print(128);print(32768);print(2147483647);print(2+3*4-5);print((2+3)*4);print(10-3-4);print(100/5/2);print(7-8%3);",
            0, 5, 6, 127, 128, 32768, 2147483647, 9, 20, 3, 10, 5);
        prints(b, "print(1+2<<3);print(1|2^3&4);print(3&1+1);print(1==1==true);print(1<2==2>1);", 24, 3, 2, 1, 1);
    }

    private static void compares(Bench b) {
        prints(b, "int n=1;while(n<4){print(n<2);print(n<=2);print(n>2);print(n>=2);print(n==2);print(n!=2);n=n+1;}",
            1, 1, 0, 0, 0, 1, 0, 1, 0, 1, 1, 0, 0, 0, 1, 1, 0, 1);
        prints(b, "A a=new A();A c=new A();A d=a;print(a==c);print(a==d);print(a!=c);print(a!=null);print(null==null);print(true==false);print(true!=false);",
            0, 1, 1, 1, 1, 0, 1);
        prints(b, "boolean t=true;boolean f=false;print(t&&f);print(f&&1/0==0);print(t||1/0==0);print(f||t);print(!t);print(!f);print(t?1:2);print(f?1:f?2:3);",
            0, 0, 1, 1, 0, 1, 1, 3);
        prints(b, "int n=0;while(true){n=n+1;if(n==3)continue;if(n>5)break;print(n);}print(n);", 1, 2, 4, 5, 6);
        prints(b, "int i=0;while(i<3){int j=0;while(true){if(j==i)break;j=j+1;if(j==1)continue;print(10*i+j);}i=i+1;}", 22);
    }

    private static void objects(Bench b) {
        String text = "class B{int x;boolean y;B n;int[] r;}class C extends B{int x;int z;int sum(){return x+z;}}"
            + "class A{static void m(){C c=new C();print(c.x);print(c.y);print(c.n==null);print(c.r==null);"
            + "c.x=5;B d=c;d.x=7;c.z=9;c.y=true;print(c.x);print(d.x);print(c.sum());print(d.y);"
            + "c.r=new int[3];c.r[2]=4;print(c.r[0]);print(d.r[2]);print(c.r.length);"
            + "B[] a=new C[2];print(a[0]==null);a[1]=c;print(a[1].x);a[1].n=a[1];print(c.n.n.n.x);"
            + "Object o=a;print(o instanceof C);print(o instanceof Object);o=c;print(o instanceof B);print(o instanceof C);o=new B();"
            + "print(o instanceof C);o=null;print(o instanceof Object);print(((C)d).x);print((B)null==null);}}";
        ClassMill x = b.ran(text, 10, 0);
        b.printed(x, text, 0, 0, 1, 1, 5, 7, 14, 1, 0, 4, 3, 1, 7, 7, 0, 1, 1, 1, 0, 0, 5, 1);
        b.due("objects", x.look(3), 4);
        b.due("fields and elements", x.look(4), 6 + 3 + 2 + 4);
    }

    private static void methods(Bench b) {
        String text = "class A{int f(){return 1;}int g(){return f()*10;}static int s(A a){return a.g();}"
            + "static void m(){print(s(new A()));print(s(new B()));print(s(new C()));A a=new C();print(a.f());print(new C().h());print(B.s(a));p(1,true,a);}"
            + "static void p(int n,boolean t,A a){print(n);print(t);print(a.f());n=5;print(n);}}"
            + "class B extends A{int f(){return 2;}int h(){return g();}}class C extends B{int f(){return 3;}}";
        b.printed(b.ran(text, 8, 3), text, 10, 20, 30, 3, 30, 30, 1, 1, 3, 5);
        String order = "class A{static int t(int n){print(n);return n;}static A u(int n){print(n);return null;}int x;int[] r;int f(int a,int b){return a;}"
            + "static void m(){print(t(1)+t(2)*t(3));int[] r=new int[3];r[t(1)]=t(4);new A().f(t(5),t(6));"
            + "try{u(7).f(t(8),t(9));}catch(NullFault e){print(0);}try{u(7).x=t(8);}catch(NullFault e){print(0);}"
            + "try{r[t(3)]=t(4);}catch(IndexFault e){print(0);}}}";
        b.printed(b.ran(order, 8, 3), order, 1, 2, 3, 7, 1, 4, 5, 6, 7, 8, 9, 0, 7, 8, 0, 3, 4, 0);
    }

    private static void thrown(Bench b, String body, int c) {
        String text = "class A{int x;int[] r;A n;void f(){}static void m(){" + body + "}}class B extends A{}";
        ClassMill x = b.ran(text, 8, 1);
        b.due("state of " + body, x.look(0), 3);
        b.due("thrown by " + body, x.look(1), c);
        b.due("methods of " + body, x.look(5), 0);
        b.due("top of " + body, x.look(7), -1);
    }

    private static void faults(Bench b) {
        thrown(b, "A a=null;print(a.x);", 2);
        thrown(b, "A a=null;a.x=1;", 2);
        thrown(b, "A a=null;a.f();", 2);
        thrown(b, "int[] a=null;print(a[5]);", 2);
        thrown(b, "int[] a=null;a[-1]=1;", 2);
        thrown(b, "A[] a=null;a[0]=new A();", 2);
        thrown(b, "A[] a=null;print(a[0].x);", 2);
        thrown(b, "A[] a=new A[1];print(a[0].x);", 2);
        thrown(b, "int[] a=null;print(a.length);", 2);
        thrown(b, "throw null;", 2);
        thrown(b, "int[] a=new int[2];print(a[2]);", 3);
        thrown(b, "int[] a=new int[2];print(a[-1]);", 3);
        thrown(b, "int[] a=new int[0];a[0]=1;", 3);
        thrown(b, "Object[] a=new A[1];a[1]=new Object();", 3);
        thrown(b, "print(1/0);", 4);
        thrown(b, "print(1%0);", 4);
        thrown(b, "A a=(B)new A();", 5);
        thrown(b, "Object a=new int[1];a=(A)a;", 5);
        thrown(b, "int[] a=new int[-1];", 6);
        thrown(b, "A[] a=new A[-2147483647];", 6);
        thrown(b, "Object[] a=new A[1];a[0]=new Object();", 7);
        thrown(b, "A[] a=new B[1];a[0]=new A();", 7);
        thrown(b, "Object[] a=new A[1];a[0]=new int[1];", 7);
        thrown(b, "throw new IndexFault();", 3);
        thrown(b, "throw new Fault();", 1);
        ClassMill x = b.ran("class A{static void m(){print(1);print(1/0);print(2);}}", 8, 0);
        b.due("a thrown object is made", x.look(3), 1);
        b.due("it has no fields", x.look(4), 0);
        b.due("steps", x.look(2), 5);
        b.due("prints", x.look(6), 1);
        prints(b, "Object[] a=new A[1];a[0]=null;a[0]=new A();Object[] o=new Object[1];o[0]=a;print(o[0]==a);A c=(A)a[0];print(c==a[0]);", 1, 1);
    }

    private static void handlers(Bench b) {
        String text = "class E extends Fault{int n;}class A{"
            + "static int f(int n){try{if(n==0){E e=new E();e.n=5;throw e;}if(n==1)return 1/(n-1);return g(n);}catch(ArithFault a){return 10;}}"
            + "static int g(int n){try{return f(n-2);}catch(NullFault e){return 20;}}"
            + "static void m(){try{print(f(1));print(f(3));print(f(0));}catch(E e){print(e.n);}try{print(f(2));}catch(Fault e){print(e instanceof E);}"
            + "try{try{throw null;}catch(IndexFault e){print(7);}}catch(Fault e){print(e instanceof NullFault);}"
            + "try{throw new E();}catch(E e){print(8);}try{try{print(1/0);}catch(Fault e){throw e;}}catch(ArithFault e){print(9);}"
            + "int k=0;while(true){k=k+1;try{if(k==2)continue;if(k==4)break;if(k==3)throw new E();print(k);}catch(E e){print(30);}}}}";
        b.printed(b.ran(text, 9, 2), text, 10, 10, 5, 1, 1, 8, 9, 1, 30);
        // of two HANDLERS that have it the first one
        int[] code = {0, 1, 191, 87, 4, 186, 177, 87, 5, 186, 177};
        int[] both = {0, 0, 0, 3, 0, 7, 6, 0, 0, 0, 3, 0, 3, 6};
        int[] frames = {2, 0, 3, 0, 1, 3, 6, 0, 7, 0, 1, 3, 6};
        ClassMill x = new ClassMill();
        Bench.load(x, Bench.method(1, 11, 1, 0, code, both, frames));
        b.due("verify", x.verify(), 0);
        b.due("start", x.start(8, 0), true);
        x.run(3);
        b.due("place", x.look(9), 7);
        b.due("on the stack", x.look(10), 1);
        x.run(10);
        b.due("out(0)", x.out(0), 2);
        // what is thrown at the place TO is not its
        int[] behind = {0, 1, 191, 87, 177};
        ClassMill y = new ClassMill();
        Bench.load(y, Bench.method(1, 11, 1, 0, behind, new int[] {0, 0, 0, 2, 0, 3, 6}, new int[] {1, 0, 3, 0, 1, 3, 6}));
        b.due("verify", y.verify(), 0);
        y.start(8, 0);
        y.run(10);
        b.due("not caught", y.look(0), 3);
    }

    private static void given(Bench b) {
        String text = "class B extends Fault{}class A{static int a(){return -5;}static boolean b(){return true;}static void c(){}"
            + "static Object d(){return null;}static Object e(){return new A();}static Object f(){return new int[2];}"
            + "static Object g(){return new A[2];}static Object h(){return new Object[2];}static Fault i(){return new B();}"
            + "static Fault j(){throw new B();}static Object k(){return new SizeFault();}static int[] l(){return null;}}";
        int[] states = {2, 2, 2, 2, 2, 2, 2, 2, 2, 3, 2, 2};
        int[] given = {-5, 1, -1, -1, 9, 200, 109, 100, 8, 8, 6, -1};
        for (int m = 0; m < given.length; m++) {
            ClassMill x = b.ran(text, 9, m);
            b.due("state of " + m, x.look(0), states[m]);
            b.due("given by " + m, x.look(1), given[m]);
        }
    }

    private static void room(Bench b) {
        ClassMill x = b.ran("class A{static void m(){int n=0;while(n<2000){new A().f();n=n+1;}print(n);}void f(){}}", 8, 0);
        b.due("2000 objects", x.look(0), 2);
        b.due("2000 objects", x.look(3), 2000);
        x = b.ran("class A{static void m(){int n=0;while(true){new A().f();n=n+1;print(n);}}void f(){}}", 8, 0);
        b.due("2001 objects", x.look(0), 4);
        b.due("2001 objects", x.look(3), 2000);
        b.due("it ends there", x.look(6), 2000);
        b.due("methods begun", x.look(5), 1);
        b.due("gave", x.look(1), -1);
        b.due("top", x.look(9), -1);
        b.due("run", x.run(1), 0);
        x = b.ran("class A{static void m(){int[] a=new int[20000];print(a[19999]);}}", 8, 0);
        b.due("20000 elements", x.look(0), 2);
        b.due("20000 elements", x.look(4), 20000);
        x = b.ran("class A{static void m(){int[] a=new int[20001];}}", 8, 0);
        b.due("20001 elements", x.look(0), 4);
        b.due("none was made", x.look(3), 0);
        x = b.ran("class A{static void m(){try{int[] a=new int[2147483647];}catch(Fault e){print(1);}}}", 8, 0);
        b.due("the most elements", x.look(0), 4);
        b.due("nothing is thrown", x.look(6), 0);
        x = b.ran("class A{int x;int y;static void m(){int[] a=new int[19997];A c=new A();print(1);c=new A();print(2);}}", 8, 0);
        b.due("fields count", x.look(0), 4);
        b.due("fields count", x.look(6), 1);
        x = b.ran("class A{static void m(){int n=0;while(n<2000){new A().f();n=n+1;}try{print(1/0);}catch(Fault e){print(2);}}void f(){}}", 8, 0);
        b.due("no room for a fault", x.look(0), 4);
        // a new run has its own room, and its objects begin with 0
        x = b.ran("class A{int x;static void m(){A a=new A();print(a.x);a.x=5;}}", 8, 0);
        x.start(8, 0);
        x.run(100);
        b.due("a new run", x.look(3), 1);
        b.due("a new run", x.out(0), 0);
    }

    private static void depth(Bench b) {
        ClassMill x = b.ran("class A{static int f(int n){if(n==0)return 0;return 1+f(n-1);}static void m(){print(f(58));}static void n(){print(f(59));}}", 8, 1);
        b.due("60 methods", x.look(0), 2);
        b.due("60 methods", x.out(0), 58);
        x.start(8, 2);
        x.run(20000);
        b.due("61 methods", x.look(0), 5);
        b.due("61 methods", x.look(5), 60);
        b.due("61 methods", x.look(8), -1);
        x = b.ran("class A{static void f(){try{f();}catch(Fault e){print(1);}}static void m(){f();}}", 8, 1);
        b.due("nothing is thrown", x.look(0), 5);
        b.due("nothing is thrown", x.look(6), 0);
    }

    private static void printing(Bench b) {
        ClassMill x = b.ran("class A{static void m(){int n=0;while(n<1005){n=n+1;print(n);}}}", 8, 0);
        b.due("look(6)", x.look(6), 1005);
        b.due("out(999)", x.out(999), 1000);
        b.due("out(1000)", x.out(1000), 0);
        b.due("out(0)", x.out(0), 1);
    }

    private static void signs(Bench b) {
        ClassMill x = new ClassMill();
        Bench.load(x, Bench.method(1, 11, 2, 0, new int[] {16, 128, 186, 16, 255, 186, 16, 127, 186, 2, 186, 18, 9, 89, 96, 186, 177}, EMPTY, NO_FRAMES));
        b.due("verify", x.verify(), 0);
        x.start(8, 0);
        x.run(100);
        b.printed(x, "16 v", -128, -1, 127, -1, -2);
        // an int may come to where a boolean is told: it stays as it is
        ClassMill y = b.brought("class A{boolean z;static void m(){A a=new A();a.z=true;print(a.z);}}");
        byte[] row = Bench.image(y, 0);
        for (int i = 1; i < row.length; i++) {
            if (row[i] == (byte) 181) {
                y.patch(8, i - 1, 8);
            }
        }
        b.due("verify", y.verify(), 0);
        y.start(8, 0);
        y.run(100);
        b.due("out(0)", y.out(0), 5);
    }
}
