/** Promises 4 and 5 as section 2 has them: FAULTS 4 to 11 and which of several is told. */
public final class RulesTest {
    private static final String CAST = "class A{int x;A a;int[] i;boolean b;"
        + "void v(){}int f(int n){return n;}static int s(A a,int n){return n;}static void w(){}"
        + "A g(){return a;}";

    public static void main(String[] args) {
        Bench b = new Bench("RulesTest");
        classHeads(b);
        memberHeads(b);
        overrides(b);
        twice(b);
        unknown(b);
        operators(b);
        giving(b);
        calls(b);
        words(b);
        away(b);
        endings(b);
        order(b);
        much(b);
        b.end();
    }

    /** In a method of A that is not static, behind members of many kinds. */
    private static void own(Bench b, int fault, String marked) {
        b.fault(fault, CAST + "void m(){" + marked + "}}class B extends A{}class C{}");
    }

    private static void fixed(Bench b, int fault, String marked) {
        b.fault(fault, CAST + "static void m(){" + marked + "}}class B extends A{}class C{}");
    }

    private static void fine(Bench b, String text) {
        b.right(CAST + "void m(){" + text + "}}class B extends A{}class C{}", 3);
    }

    private static void classHeads(Bench b) {
        b.fault(4, "class A{}class @A{}");
        b.fault(4, "class @Object{}");
        b.fault(4, "class A{}class @StoreFault{}");
        b.fault(5, "class A extends @B{}");
        b.fault(6, "class A extends @A{}");
        b.fault(6, "class A extends @B{}class B extends C{}class C extends B{}");
        b.fault(5, "class A extends B{}class B extends @D{}");
        b.fault(5, "class A extends B{}class B extends @D{int x;int x;}class C extends C{}");
        b.fault(4, "class A{int x;int x;}class @A extends Z{}");
        b.right("class A extends B{}class B extends Fault{}class C extends SizeFault{}", 3);
        String eight = "class A{}class B{}class C{}class D{}class E{}class F{}class G{}class H{}";
        b.right(eight, 8);
        b.fault(11, eight + "class @I{}");
        b.fault(11, eight + "class @A extends Z{}class I{}");
        b.fault(11, "class Z extends I{}" + eight.substring(0, 63) + "class @I{}");
        b.fault(5, "class Z extends @J{}" + eight);
    }

    private static void memberHeads(Bench b) {
        b.fault(5, "class A{@B x;}");
        b.fault(5, "class A{@B[] x;}");
        b.fault(5, "class A{@B x(){}}");
        b.fault(5, "class A{int x(int a,@B b){}}");
        b.fault(4, "class A{int x;boolean @x;}");
        b.fault(4, "class A{void x(){}int @x(){}}");
        b.fault(4, "class A{void x(int a,int b,A @a){}}");
        b.fault(5, "class A{int x;@B x;}");
        b.right("class A{int x;int x(int x){return x;}}class B extends A{boolean x;}", 2);
        String twelve = "int a;int b;int c;int d;int e;int f;int g;int h;int i;int j;int k;int l;";
        b.right("class A{" + twelve + "}class B extends A{" + twelve + "}", 2);
        b.fault(11, "class A{" + twelve + "int @m;}");
        b.fault(11, "class A{" + twelve + "int @a;}");
        b.fault(5, "class A{" + twelve + "@Z m;}");
        String methods = twelve.replace(";", "(){return 1;}");
        b.right("class A{" + twelve + methods + "}", 1);
        b.fault(11, "class A{" + methods + "void @m(){}}");
        b.right("class A{void m(int a,int b,int c,int d,int e,int f){}}", 1);
        b.fault(11, "class A{void m(int a,int b,int c,int d,int e,int f,int @g){}}");
        b.fault(11, "class A{void m(int a,int b,int c,int d,int e,int f,int @a){}}");
        b.fault(4, "class A{void m(){x;}int f;int @f;}");
    }

    private static void overrides(Bench b) {
        b.right("class A{int f(A a){return 1;}}class B extends A{int f(A b){return 2;}}", 2);
        b.fault(10, "class A{int f(A a){return 1;}}class B extends A{int @f(B b){return 2;}}");
        b.fault(10, "class A{int f(){return 1;}}class B extends A{boolean @f(){return true;}}");
        b.fault(10, "class A{int f(){return 1;}}class B extends A{}class C extends B{int @f(int n){return 1;}}");
        b.fault(10, "class A{static int f(){return 1;}}class B extends A{int @f(){return 1;}}");
        b.fault(10, "class A{static int f(){return 1;}}class B extends A{static int @f(){return 1;}}");
        b.fault(10, "class B extends A{static int @f(){return 1;}}class A{int f(){return 1;}}");
        b.fault(10, "class A{int f(){return x;}}class B extends A{int @f(int n){return 1;}}");
        b.right("class A{int f(){return 1;}}class B{boolean f(){return true;}}class C extends A{int g;int g(){return 1;}}", 3);
    }

    private static void twice(Bench b) {
        own(b, 4, "int n=1;int @n=2;");
        own(b, 4, "int n=1;{int @n=2;}");
        own(b, 4, "int n=1;try{}catch(Fault @n){}");
        own(b, 4, "try{}catch(Fault n){int @n=1;}");
        own(b, 4, "int n=1;boolean @n=z;");
        b.fault(4, "class A{void m(int n){if(true)int @n=1;}}");
        fine(b, "{int n=1;}int n=2;{int k=n;}try{int k=1;}catch(Fault k){}int k=3;");
        fine(b, "if(true)int n=1;else int n=2;while(b)int n=3;int n=4;int m=5;int A=6;int x=7;int length=8;");
        fine(b, "try{int k=1;}catch(Fault k){k=null;}");
    }

    private static void unknown(Bench b) {
        own(b, 5, "print(@n);");
        own(b, 5, "int n=@n;");
        own(b, 5, "{int n=1;}print(@n);");
        own(b, 5, "if(true)int n=1;print(@n);");
        own(b, 5, "try{}catch(Fault e){}@e=null;");
        own(b, 5, "@x();");
        own(b, 5, "@f=1;");
        own(b, 5, "print(a.@y);");
        own(b, 5, "print(a.@f);");
        own(b, 5, "print(a.@x());");
        own(b, 5, "print(i.@size);");
        own(b, 5, "print(i.@length());");
        own(b, 5, "print(i.@f(1));");
        own(b, 5, "print(a.@length);");
        own(b, 5, "@D.s(a,1);");
        own(b, 5, "A.@t(a,1);");
        own(b, 5, "Object.@s(a,1);");
        own(b, 5, "print(@A.x);");
        own(b, 5, "print((@A).s(a,1));");
        own(b, 5, "@D n=null;");
        own(b, 5, "@D[] n=null;");
        own(b, 5, "print(new @D()==null);");
        own(b, 5, "print(new @D[y]==null);");
        own(b, 5, "a=(@D)y;");
        own(b, 5, "a=(@x)(1);");
        own(b, 5, "print(a instanceof @D);");
        own(b, 5, "try{}catch(@D e){}");
        fine(b, "print(new B().x);print(new B().f(1));B.w();A.w();w();print(s(a,f(2)));print(i.length);");
        // a variable, then a field, stand ahead of a class
        fine(b, "A C=this;C.v();");
        b.fault(5, "class A{C D;void m(){D.@w();}}class C{}class D{static void w(){}}");
        b.fault(7, "class A{C D;static void m(){@D.w();}}class C{void w(){}}class D{static void w(){}}");
    }

    private static void operators(Bench b) {
        own(b, 6, "if(@1)v();");
        own(b, 6, "if(@x+1)v();");
        own(b, 6, "while(@a)v();");
        own(b, 6, "print(@(x)?1:2);");
        own(b, 6, "print(@x?1:2);");
        own(b, 6, "b=!@x;");
        own(b, 6, "b=!@(x);");
        own(b, 6, "b=b&&@x;");
        own(b, 6, "b=@x&&b;");
        own(b, 6, "b=@x+1||b;");
        own(b, 6, "b=b&&b&&@x+1?b:b;");
        own(b, 6, "b=b||@x|1||b;");
        own(b, 6, "print(@-b);");
        own(b, 6, "print(@~b);");
        own(b, 6, "print(1@+b);");
        own(b, 6, "print(b@*1);");
        own(b, 6, "print(1-1@%b);");
        own(b, 6, "print(b@<<1);");
        own(b, 6, "print(1@>>>b);");
        own(b, 6, "print(b@<b);");
        own(b, 6, "print(1<2@<3);");
        own(b, 6, "print(1@&b);");
        own(b, 6, "print(b@|1);");
        own(b, 6, "print(a@^a);");
        own(b, 6, "print(1@==b);");
        own(b, 6, "print(1@!=null);");
        own(b, 6, "print(a@==new C());");
        own(b, 6, "print(i@==a);");
        own(b, 6, "print(new A[1]@==new C[1]);");
        own(b, 6, "print(a instanceof @C);");
        own(b, 6, "print(1 instanceof @A);");
        own(b, 6, "print(i instanceof @A);");
        own(b, 6, "print(b instanceof @A);");
        own(b, 6, "a=(@A)new C();");
        own(b, 6, "a=(@A)1;");
        own(b, 6, "print(b@?1:b);");
        own(b, 6, "print(b@?a:1);");
        own(b, 6, "a=b@?a:new C();");
        own(b, 6, "print(x@[0]);");
        own(b, 6, "print(i@[b]);");
        own(b, 6, "print(a@[0]);");
        own(b, 6, "i=new int@[b];");
        own(b, 6, "print(new A@[null]==null);");
        own(b, 6, "print(x@.y);");
        own(b, 6, "print(b@.y());");
        own(b, 6, "print(null@.x);");
        own(b, 6, "print(f(1)@.x);");
        fine(b, "b=b&b|b^!b;x=x&x|x^~x;print(b==true);print(a==new B());print(null==null);print(i==null);");
        fine(b, "print(new B[1]==new A[1]);Object o=i;o=new A[1];print(o==i);print(o instanceof A);print(null instanceof A);");
        fine(b, "a=b?new B():a;a=b?null:a;Object o=b?a:new Object();print(b?null==null:b);B c=(B)a;a=(A)null;o=(Object)i;");
        // of null and null the choice is null's, which has no fields
        own(b, 6, "print((b?null:null)@.x);");
        // the choice has the TYPE that the other one fits
        own(b, 5, "print((b?new B():new Object()).@x);");
    }

    private static void giving(Bench b) {
        own(b, 6, "int n@=b;");
        own(b, 6, "boolean n@=1;");
        own(b, 6, "B n@=a;");
        own(b, 6, "int[] n@=new A[1];");
        own(b, 6, "Object[] n@=i;");
        own(b, 6, "x@=b;");
        own(b, 6, "a.x@=null;");
        own(b, 6, "i[0]@=b;");
        own(b, 6, "i.length@=1;");
        own(b, 6, "(x)@=1;");
        own(b, 6, "1@=1;");
        own(b, 6, "x+x@=1;");
        own(b, 6, "-x@=1;");
        own(b, 6, "this@=a;");
        own(b, 6, "f(1)@=1;");
        own(b, 6, "(B)a@=null;");
        own(b, 6, "b?x:x@=1;");
        own(b, 6, "new A()@=null;");
        fine(b, "A n=new B();n=null;n.x=1;n.a.a.x=2;i[0]=i[i[1]];this.i[x]=3;new A().x=4;(a).x=5;g().x=6;");
        fine(b, "Object[] o=new B[1];A[] p=new B[2];o=p;o[0]=i;p[0]=new B();int n=1;n=2;");
    }

    private static void calls(Bench b) {
        own(b, 6, "@f();");
        own(b, 6, "@f(1,2);");
        own(b, 6, "@f(b);");
        own(b, 6, "a.@f(b);");
        own(b, 6, "A.@s(new C(),1);");
        own(b, 6, "A.@s(a);");
        own(b, 6, "a.@s(a,1);");
        own(b, 6, "this.@w();");
        own(b, 6, "A.@f(1);");
        own(b, 6, "A.@v();");
        own(b, 6, "print(@v());");
        own(b, 6, "int n=@v();");
        own(b, 6, "x=@v();");
        own(b, 6, "@v()=1;");
        own(b, 6, "(@v());");
        own(b, 6, "@v().x=1;");
        own(b, 6, "@v()[0]=1;");
        own(b, 6, "f(@v());");
        own(b, 6, "if(a.@v())v();");
        own(b, 6, "b=!a.@v();");
        own(b, 6, "print(@v()+1);");
        own(b, 6, "b=b?@v():b;");
        own(b, 6, "throw @v();");
        own(b, 6, "print(@v() instanceof A);");
        own(b, 6, "print(i[@w()]);");
        own(b, 6, "A.@w()?1:2;");
        own(b, 6, "@x;");
        own(b, 6, "@1;");
        own(b, 6, "@(f(1));");
        own(b, 6, "@f(1)+1;");
        own(b, 6, "@-f(1);");
        own(b, 6, "@new A();");
        own(b, 6, "@a.x;");
        own(b, 6, "@i[0];");
        own(b, 6, "@b?f(1):f(2);");
        own(b, 6, "@(A)g();");
        fine(b, "v();this.v();a.v();new A().v();(a).v();g().g().v();f(f(1));g();A.s(new B(),1);w();s(null,2);");
        fixed(b, 6, "A.@v();");
    }

    private static void words(Bench b) {
        own(b, 6, "@print(a);");
        own(b, 6, "@print(null);");
        own(b, 6, "@throw a;");
        own(b, 6, "@throw 1;");
        own(b, 6, "try{}catch(@Object e){}");
        own(b, 6, "try{}catch(@A e){}");
        own(b, 6, "try{print(@v());}catch(D e){}");
        b.fault(6, "class A{int m(){@return true;}}");
        b.fault(6, "class A{A m(){@return new Object();}}");
        b.fault(6, "class A{boolean m(){@return null;}}");
        b.right("class A{A m(){return null;}Fault[] n(){return new B[1];}Object o(){return new int[2];}"
            + "void p(){throw null;}void q(){throw new B();}}class B extends IndexFault{}", 2);
    }

    private static void away(Bench b) {
        fixed(b, 7, "@this.v();");
        fixed(b, 7, "@x=1;");
        fixed(b, 7, "@v();");
        fixed(b, 7, "print(@f(1));");
        fixed(b, 7, "@a.v();");
        own(b, 7, "@break;");
        own(b, 7, "@continue;");
        own(b, 7, "while(b){}if(b)@break;");
        own(b, 7, "@return 1;");
        own(b, 7, "@return y;");
        b.fault(7, "class A{int m(){@return;}}");
        b.right(CAST + "static void m(A a){a.v();a.x=1;new A().x=2;int x=3;x=4;w();A.w();return;}}", 1);
    }

    private static void endings(Bench b) {
        b.fault(8, "class A{int @m(){}}");
        b.fault(8, "class A{int @m(boolean b){if(b)return 1;}}");
        b.fault(8, "class A{int @m(boolean b){while(b)return 1;}}");
        b.fault(8, "class A{int @m(boolean b){while((true)){}}}");
        b.fault(8, "class A{int @m(boolean b){while(true){if(b)break;}}}");
        b.fault(8, "class A{int @m(boolean b){try{return 1;}catch(Fault e){}}}");
        b.fault(8, "class A{int @m(boolean b){try{m(b);}catch(Fault e){return 1;}}}");
        b.fault(8, "class A{int @m(boolean b){}int n(){return x;}}");
        b.right("class A{int m(boolean b){if(b)return 1;else return 2;}int n(){while(true){}}"
            + "int o(){while(true)while(true){while(true)break;}}int p(){try{return 1;}catch(Fault e){throw e;}}"
            + "int q(boolean b){{if(b){return 1;}}{{return 2;}}}int r(boolean b){while(true)if(b)continue;}}", 1);
        own(b, 9, "return;@v();");
        own(b, 9, "throw null;@x;");
        own(b, 9, "while(b){break;@v();}");
        own(b, 9, "while(b){continue;@{}}");
        own(b, 9, "{return;}@v();");
        own(b, 9, "if(b)return;else return;@v();");
        own(b, 9, "try{return;}catch(Fault e){return;}@v();");
        own(b, 9, "while(true){}@v();");
        own(b, 9, "while(true){while(b)break;}@v();");
        own(b, 9, "if(b){return;@int n=1;}");
        fine(b, "while(true){if(b)break;}v();while(true){break;}v();while(b){return;}v();if(b)return;v();try{return;}catch(Fault e){}v();");
    }

    private static void order(Bench b) {
        // parts ahead of the whole, from the left
        own(b, 5, "print(1+@y+b);");
        own(b, 6, "print(1@+b+y);");
        own(b, 6, "b=@x&&y;");
        own(b, 6, "print(@v()+y);");
        own(b, 6, "if(@x)y=1;");
        own(b, 6, "print(@x?y:y);");
        own(b, 5, "1=@y;");
        own(b, 5, "@y(z);");
        own(b, 5, "a.@y(z);");
        own(b, 5, "f(b,@z);");
        own(b, 5, "A.f(@z);");
        own(b, 5, "@D.y(z);");
        own(b, 6, "x@.y(z);");
        own(b, 5, "x[@y]=1;");
        own(b, 5, "i[0]=@y;");
        own(b, 5, "int[] n=new int[@y];");
        own(b, 5, "@D n=y;");
        own(b, 4, "int n=1;int @n=y;");
        own(b, 5, "print(@y instanceof D);");
        own(b, 7, "@return y;");
        own(b, 9, "return;@y=1;");
        own(b, 5, "try{@y=1;}catch(D e){}");
        own(b, 5, "int e=1;try{}catch(@D e){z=1;}");
        own(b, 4, "int e=1;try{}catch(Fault @e){z=1;}");
        fixed(b, 7, "@f(x);");
        b.fault(5, "class A{int m(){@y=1;}}");
        b.fault(5, "class A{int m(){return 1;}void n(){@y=1;}int o(){}}");
        b.fault(8, "class A{int @m(){}}class B{void n(){y=1;}}");
    }

    private static void much(Bench b) {
        StringBuilder many = new StringBuilder();
        for (int i = 0; i < 29; i++) {
            many.append("int v").append(i).append("=1;");
        }
        b.right("class A{void m(){" + many + "}}", 1);
        b.right("class A{static void m(){" + many + "{int z=1;}{int z=2;}if(true)int z=3;}}", 1);
        b.fault(11, "class A{void @m(){" + many + "int z=1;}}");
        b.fault(11, "class A{static void @m(){" + many + "{int y=1;if(true)int z=1;}}}");
        b.fault(11, "class A{static void @m(){" + many + "int y=1;try{}catch(Fault z){}}}");
        b.fault(5, "class A{void m(){" + many + "int z=1;}void n(){@q=1;}}");
        // 20 on the stack, and 21
        String deep = "1+(".repeat(19) + "1" + ")".repeat(19);
        b.right("class A{void m(){print(" + deep + ");}}", 1);
        b.fault(11, "class A{void @m(){print(1+(" + deep + "));}}");
        // 2 + 3 * 498 + 1 bytes of CODE and the last one, with 2 more 1,500
        String long1498 = "m(int a){print(a" + "*a".repeat(498) + ");";
        b.right("class A{void " + long1498 + "print(1);}}", 1);
        b.fault(11, "class A{void @" + long1498 + "print(7);}}");
        // 20 HANDLERS, and 21
        b.right("class A{void m(){" + "try{}catch(Fault e){}".repeat(20) + "}}", 1);
        b.fault(11, "class A{void @m(){" + "try{}catch(Fault e){}".repeat(21) + "}}");
        // 100 FRAMES, and 101: each ! has two
        String nots = "b=!b;".repeat(50);
        b.right("class A{boolean b;void m(){" + nots + "}}", 1);
        b.fault(11, "class A{boolean b;void @m(){" + nots + "if(b){}}}");
        b.fault(11, "class A{boolean b;void m(){}void @n(){" + nots + "b=!b;}}class B{void m(){" + "try{}catch(Fault e){}".repeat(21) + "}}");
        constants(b);
        imageSize(b);
    }

    private static void constants(Bench b) {
        StringBuilder prints = new StringBuilder();
        for (int i = 0; i < 194; i++) {
            prints.append("print(").append(200 + i).append(");");
        }
        // A, its CLASS, Object, its CLASS, m, ()V, and INTS
        b.right("class A{void m(){" + prints + "}}", 1);
        b.fault(11, "class @A{void m(){" + prints + "print(500);}}");
        b.fault(11, "class B{}class @A{void m(){" + prints + "print(500);}}class C{void m(){print(1);}}");
        b.fault(9, "class A{void m(){" + prints + "print(500);}void n(){return;@n();}}");
    }

    private static void imageSize(Bench b) {
        // a FRAME with 29 locals of a class has 62 bytes, 2 of each ! make 124 and 8 of CODE and 3 around it
        StringBuilder locals = new StringBuilder();
        for (int i = 0; i < 28; i++) {
            locals.append("A v").append(i).append("=null;");
        }
        String half = locals + "b=!b;".repeat(48);
        b.fault(11, "class @A{boolean b;void m(){" + half + "}}");
        b.right("class A{boolean b;void m(){" + locals + "b=!b;".repeat(40) + "}}", 1);
    }
}
