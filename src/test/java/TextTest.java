/** Promises 4 and 5 as section 1 has them: tokens, grammar, FAULTS 1 to 3. */
public final class TextTest {
    public static void main(String[] args) {
        Bench b = new Bench("TextTest");
        tokens(b);
        heads(b);
        statements(b);
        values(b);
        depths(b);
        sizes(b);
        b.end();
    }

    private static void inMethod(Bench b, int fault, String marked) {
        b.fault(fault, "class A{void m(){" + marked + "}}");
    }

    private static void tokens(Bench b) {
        b.right("class A { } // a remark: @ # \n class B { } // to the end", 2);
        b.right("//\n//x\nclass A{}//", 1);
        b.right("class Abcdefghij12{int a_9_;}", 1);
        b.fault(1, "class @Abcdefghij123{}");
        b.fault(1, "class A{@\t}");
        b.fault(1, "class A{}@\r");
        b.fault(1, "class A{}@#");
        b.fault(1, "class A{int @_a;}");
        b.fault(1, "class A{}@\u00e9");
        inMethod(b, 1, "print(@007);");
        inMethod(b, 1, "print(@00);");
        inMethod(b, 1, "print(@2147483648);");
        inMethod(b, 1, "print(@99999999999999999999999999);");
        inMethod(b, 1, "print(@1a);");
        inMethod(b, 1, "print(@1_);");
        b.right("class A{void m(){print(2147483647);print(0);print(10);}}", 1);
        b.right("class A{void m(){print(1>>>2>>3>4);print(1<=2);print(5-3!=2);print(~1);}}", 1);
        inMethod(b, 2, "print(1>>>@>2);");
        inMethod(b, 2, "int x@==1;");
        inMethod(b, 2, "print(1/ @/2);");
        b.right("class A{void m(){print(1// 2\n);}}", 1);
        b.right("class A{void m(){print(1 / 2);print(7%2);}}", 1);
    }

    private static void heads(Bench b) {
        b.fault(2, "@");
        b.fault(2, "  // nothing\n@");
        b.fault(2, "@A");
        b.fault(2, "class@");
        b.fault(2, "class @int{}");
        b.fault(2, "class A@");
        b.fault(2, "class A @implements B{}");
        b.fault(2, "class A extends @{}");
        b.fault(2, "class A extends B@");
        b.fault(2, "class A{@");
        b.fault(2, "class A{}@;");
        b.fault(2, "class A{}@}");
        b.fault(2, "class A{@;}");
        b.fault(2, "class A{int @}");
        b.fault(2, "class A{int a@}");
        b.fault(2, "class A{int a@,b;}");
        b.fault(2, "class A{int[@5] a;}");
        b.fault(2, "class A{boolean@[] a;}");
        b.fault(2, "class A{A[]@[] a;}");
        b.fault(2, "class A{static int a@;}");
        b.fault(2, "class A{void a@;}");
        b.fault(2, "class A{static @static int a(){}}");
        b.fault(2, "class A{int a(int @){}}");
        b.fault(2, "class A{int a(int b,@){}}");
        b.fault(2, "class A{int a(@void b){}}");
        b.fault(2, "class A{int a(int b @int c){}}");
        b.fault(2, "class A{void a()@;}");
        b.fault(2, "class A{void a(){@");
        b.right("class A{int a;boolean b;int[] c;A d;A[] e;void f(){}static A[] g(int a,A[] b){return b;}}", 1);
    }

    private static void statements(Bench b) {
        inMethod(b, 2, "int x@;");
        inMethod(b, 2, "int@=1;");
        inMethod(b, 2, "int[] @[] x=null;");
        inMethod(b, 2, "A[] @=null;");
        inMethod(b, 2, "A x @y;");
        inMethod(b, 2, "if @1;");
        inMethod(b, 2, "if(@)print(1);");
        inMethod(b, 2, "if(true)@");
        inMethod(b, 2, "@else print(1);");
        inMethod(b, 2, "while(true@{}");
        inMethod(b, 2, "break @x;");
        inMethod(b, 2, "return 1 @2;");
        inMethod(b, 2, "throw@;");
        inMethod(b, 2, "try @print(1);");
        inMethod(b, 2, "try{}@");
        inMethod(b, 2, "try{}catch(@int x){}");
        inMethod(b, 2, "try{}catch(A @){}");
        inMethod(b, 2, "try{}catch(A x)@;");
        inMethod(b, 2, "print @1;");
        inMethod(b, 2, "print(1)@");
        inMethod(b, 2, "@;");
        inMethod(b, 2, "x=1@=2;");
        inMethod(b, 2, "x@");
        inMethod(b, 2, "@class B{}");
        b.fault(2, "class A{void m(){{}}@");
        b.right("class A{void m(){{}if(true)if(false)print(1);else print(2);while(false)print(3);}}", 1);
    }

    private static void values(Bench b) {
        inMethod(b, 2, "x=@;");
        inMethod(b, 2, "x=1+@;");
        inMethod(b, 2, "x=@+1;");
        inMethod(b, 2, "x=(1@;");
        inMethod(b, 2, "x=f(1@;");
        inMethod(b, 2, "x=f(1,@);");
        inMethod(b, 2, "x=a[@];");
        inMethod(b, 2, "x=a.@1;");
        inMethod(b, 2, "x=a?1@;");
        inMethod(b, 2, "x=new A@;");
        inMethod(b, 2, "x=new A(@1);");
        inMethod(b, 2, "x=new int@(1);");
        inMethod(b, 2, "x=new @boolean[1];");
        inMethod(b, 2, "x=new int[@];");
        inMethod(b, 2, "x=a instanceof @int;");
        inMethod(b, 2, "x=a instanceof A@+1;");
        inMethod(b, 2, "x=1+a instanceof A@<<1;");
        inMethod(b, 2, "x=(A)@)1;");
        // behind a bracketed name these begin no U, so that it is no CAST
        inMethod(b, 2, "x=(A)@class;");
        b.right("class A{int x;void m(){A a=this;x=(x)-1;x=(x)+1;a=(A)a;a=(A)(a);a=(A)null;a=(A)this;a=(A)new A();}}", 1);
        b.right("class A{void m(){Object a=this;boolean x=a instanceof A==true;x=a instanceof A&&x;x=1<2==a instanceof A;}}", 1);
        b.right("class A{A m(){A[] a=new A[1];int n=new int[5].length+new int[3][1];return a[0].m().m();}}", 1);
    }

    private static String many(String part, int times) {
        return part.repeat(times);
    }

    private static void depths(Bench b) {
        // an S within n others
        b.right("class A{void m(){" + many("{", 40) + many("}", 40) + "}}", 1);
        inMethod(b, 3, many("{", 40) + "@{" + many("}", 41));
        inMethod(b, 3, many("{", 39) + "@x;" + many("}", 39));
        b.right("class A{void m(){" + many("{", 38) + "m();" + many("}", 38) + "}}", 1);
        inMethod(b, 3, many("{", 38) + "m(@1);" + many("}", 38));
        inMethod(b, 1, many("{", 40) + "@#" + many("}", 40));
        // what stands where an S or an E too deep would begin is DEEP ahead of not being able to stand there
        inMethod(b, 3, many("{", 40) + "@else" + many("}", 40));
        inMethod(b, 3, many("{", 38) + "m(@]);" + many("}", 38));
        // E in brackets: the S, the E, and 38 more
        b.right("class A{void m(){print" + many("(", 39) + "1" + many(")", 39) + ";}}", 1);
        inMethod(b, 3, "print" + many("(", 40) + "@1" + many(")", 40) + ";");
        // U's with signs: the S, the E, and 38
        b.right("class A{void m(){print(" + many("-", 38) + "1);}}", 1);
        inMethod(b, 3, "print(" + many("-", 38) + "@-1);");
        b.right("class A{void m(){A a=" + many("(A)", 38) + "this;}}", 1);
        inMethod(b, 3, "A a=" + many("(A)", 38) + "@(A)this;");
        // in a row nothing is within another
        b.right("class A{void m(){print(" + many("1+", 300) + "1);" + "print(1);".repeat(60) + "}}", 1);
        b.right("class A{int x;A a;void m(){x=" + many("a.", 200) + "x;}}", 1);
        // the choice: each E behind ? or : is within the one that has it
        b.right("class A{void m(){print(" + many("true?1:", 38) + "1);}}", 1);
        inMethod(b, 3, "print(" + many("true?1:", 38) + "true?@1:1);");
        // the BLOCKS of try are no S
        b.right("class A{void m(){" + many("try{", 19) + many("}catch(Fault x){}", 19) + "}}", 1);
        String tries = many("if(true)", 20) + many("try{", 20);
        inMethod(b, 3, tries + "@print(1);" + many("}catch(Fault x){}", 20));
        b.right("class A{void m(){" + tries + many("}catch(Fault x){}", 20) + "}}", 1);
    }

    private static void sizes(Bench b) {
        String head = "class A{}//";
        ClassMill x = new ClassMill();
        b.due("3000 bytes", Bench.compile(x, head + many("x", 2989)), 1);
        b.due("3001 bytes", Bench.compile(x, head + many("x", 2990)), -1);
        b.due("fault(0)", x.fault(0), 1);
        b.due("fault(1)", x.fault(1), 3000);
        b.due("look(13)", x.look(13), 0);
        b.due("images stay", x.image(0, 5), 'A');
        b.due("another one", Bench.compile(x, "class B{}class C{}"), 2);
        b.due("fault(0)", x.fault(0), 0);
        b.due("fault(1)", x.fault(1), -1);
        b.due("image(0, 5)", x.image(0, 5), 'B');
        b.due("image(1, 5)", x.image(1, 5), 'C');
        b.due("an empty one", x.compile(), -1);
        b.due("fault(0)", x.fault(0), 2);
        b.due("fault(1)", x.fault(1), 0);
        b.due("image(1, 5)", x.image(1, 5), 'C');
    }
}
