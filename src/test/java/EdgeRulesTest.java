/** The boundary sentences of section 2, as promises 4 and 5 answer them: FAULTS 4 to 11. */
public final class EdgeRulesTest {
    private static final String MEMBERS = "class A{int x;boolean z;A a;int[] i;A[] r;Object o;"
        + "void v(){}int f(int n){return n;}static int s(A a,int n){return n;}static void w(){}A g(){return a;}";
    private static final String OTHERS = "class B extends A{int y;}class C{}";

    public static void main(String[] args) {
        Bench b = new Bench("EdgeRulesTest");
        eightClasses(b);
        headsOneByOne(b);
        namesOfClasses(b);
        noEndByExtends(b);
        twelveFields(b);
        twelveMethods(b);
        sixParameters(b);
        membersFromTheLeft(b);
        othersByTypes(b);
        othersNearest(b);
        fitting(b);
        fittingArrays(b);
        longestChain(b);
        inSightFromBehind(b);
        inSightToTheEnd(b);
        inSightAlone(b);
        meanings(b);
        choices(b);
        alone(b);
        partsOfVoid(b);
        howMany(b);
        away(b);
        canEnd(b);
        endless(b);
        dead(b);
        order(b);
        thirtyLocals(b);
        twentyOnTheStack(b);
        longCode(b);
        twentyHandlers(b);
        hundredFrames(b);
        twoHundredConstants(b);
        longImage(b);
        muchInOrder(b);
        muchAtLast(b);
        b.end();
    }

    private static void own(Bench b, int fault, String marked) {
        b.fault(fault, MEMBERS + "void m(){" + marked + "}}" + OTHERS);
    }

    private static void fine(Bench b, String body) {
        b.right(MEMBERS + "void m(){" + body + "}}" + OTHERS, 3);
    }

    private static String classes(int many) {
        StringBuilder row = new StringBuilder();
        for (int k = 0; k < many; k++) {
            row.append("class K").append(k).append("{}");
        }
        return row.toString();
    }

    /** "11 MUCH: the ninth CLASS .. at its NAME, among the heads (ahead of 4)" */
    private static void eightClasses(Bench b) {
        b.right(classes(1), 1);
        b.right(classes(7), 7);
        b.right(classes(8), 8);
        b.fault(11, classes(8) + "class @L{}");
        b.fault(11, classes(8) + "class @L{}class M{}class N{}");
        b.fault(11, classes(8) + "class @K7{}");
        b.fault(11, classes(8) + "class @Object{}");
        b.fault(11, classes(8) + "class @L extends Q{}");
        b.fault(11, classes(8) + "class @L extends L{}");
        b.fault(4, classes(7) + "class @K6 extends Q{}class L{}");
        b.fault(5, classes(7) + "class L extends @Q{}class M{}");
        b.fault(6, classes(7) + "class L extends @L{}class M{}");
        b.fault(11, classes(8) + "class @L{int x;int x;}");
        b.fault(11, "class J extends L{int x;int x;}" + classes(7) + "class @L{}");
    }

    /** "first of the heads of CLASSES, one by one (11, 4, 5, 6)" */
    private static void headsOneByOne(Bench b) {
        b.fault(5, "class A extends @Q{}class A{}");
        b.fault(6, "class A extends @A{}class A{}");
        b.fault(4, "class A{}class @A extends Q{}class B extends B{}");
        b.fault(4, "class @Fault extends Q{}");
        b.fault(4, "class A{}class @A extends A{}");
        b.fault(5, "class A extends @Q{}class B extends B{}");
        b.fault(6, "class A extends @A{}class B extends Q{}");
        b.fault(5, "class A{Q q;}class B extends @R{}");
    }

    /** "a class told already (0 to 7, too)" */
    private static void namesOfClasses(Bench b) {
        String[] names = {"Object", "Fault", "NullFault", "IndexFault", "ArithFault", "CastFault", "SizeFault", "StoreFault"};
        for (String name : names) {
            b.fault(4, "class @" + name + "{}");
            b.fault(4, "class A{}class @" + name + " extends A{}");
            b.right("class A extends " + name + "{" + name + " x;" + name + "[] y;}", 1);
            b.right("class " + name.toLowerCase() + "{}class " + name + "_{}", 2);
        }
        b.right("class A{}class B{}class a{}class AA{}class A_{}", 5);
        b.fault(4, "class A{}class B{}class @A{}");
        b.fault(4, "class A{}class B{}class @B{}");
    }

    /** "an extends from which, going on by extends, one comes to no end (at the NAME behind it)" */
    private static void noEndByExtends(Bench b) {
        b.fault(6, "class A extends @A{}");
        b.fault(6, "class A{}class B extends @B{}");
        b.fault(6, "class A{}class B extends @C{}class C extends B{}");
        b.fault(6, "class A extends @B{}class B extends A{}");
        b.fault(6, "class A{}class B extends A{}class C extends @D{}class D extends E{}class E extends C{}");
        // one that only comes to such a circle comes to no end either
        b.fault(6, "class A extends @B{}class B extends B{}");
        b.fault(6, "class A{}class B extends @C{}class C extends D{}class D extends C{}");
        String ring = "class A extends @B{}class B extends C{}class C extends D{}class D extends E{}class E extends F{}class F extends G{}"
            + "class G extends H{}class H extends A{}";
        b.fault(6, ring);
        b.right(ring.replace("@", "").replace("H extends A", "H extends Object"), 8);
        // the first class of a name is meant; what is unknown is an end
        b.fault(5, "class A extends B{}class B extends @Q{}");
        b.fault(4, "class A extends B{}class B{}class @B extends A{}");
    }

    private static String fields(int many) {
        StringBuilder row = new StringBuilder();
        for (int i = 0; i < many; i++) {
            row.append("int f").append(i).append(";");
        }
        return row.toString();
    }

    private static String methods(int many) {
        StringBuilder row = new StringBuilder();
        for (int i = 0; i < many; i++) {
            row.append("void m").append(i).append("(){}");
        }
        return row.toString();
    }

    /** "of one the thirteenth field .. at its NAME, among the heads (ahead of 4)" */
    private static void twelveFields(Bench b) {
        b.right("class A{" + fields(12) + "}", 1);
        b.right("class A{" + fields(12) + "}class B extends A{" + fields(12) + "}class C{" + fields(12) + "}", 3);
        b.fault(11, "class A{" + fields(12) + "int @g;}");
        b.fault(11, "class A{" + fields(12) + "int @f0;}");
        b.fault(11, "class A{" + fields(12) + "int @f11;int h;}");
        b.fault(5, "class A{" + fields(12) + "@Q g;}");
        b.fault(4, "class A{" + fields(11) + "int @f10;int g;int h;}");
        b.fault(11, "class A{}class B{" + fields(12) + "void m(){}int @g;}");
        b.fault(11, classes(7) + "class A{" + fields(12) + "int @g;}");
    }

    /** "of one the thirteenth .. method", counted apart from the fields. */
    private static void twelveMethods(Bench b) {
        b.right("class A{" + methods(12) + "}", 1);
        b.right("class A{" + fields(12) + methods(12) + "}", 1);
        b.right("class A{" + methods(12) + fields(12) + "}class B extends A{" + methods(12) + "}", 2);
        b.fault(11, "class A{" + methods(12) + "void @n(){}}");
        b.fault(11, "class A{" + methods(12) + "static int @m0(Q q){}}");
        b.fault(5, "class A{" + methods(12) + "@Q n(){}}");
        b.fault(4, "class A{" + methods(11) + "void @m10(){}void n(){}}");
        b.fault(11, "class A{" + methods(12) + fields(12) + "void @n(){}}");
        b.fault(11, classes(7) + "class A{" + fields(12) + methods(12) + "int @n(){}}");
    }

    /** "the seventh parameter: at its NAME" */
    private static void sixParameters(Bench b) {
        String six = "int a,int b,int c,int d,int e,int f";
        b.right("class A{void m(" + six + "){}static void n(" + six + "){}}", 1);
        b.fault(11, "class A{void m(" + six + ",int @g){}}");
        b.fault(11, "class A{static void m(" + six + ",int @a,Q h){}}");
        b.fault(5, "class A{void m(" + six + ",@Q g){}}");
        b.fault(4, "class A{void m(int a,int b,int c,int d,int e,int @a,int g){}}");
        b.fault(4, "class A{void m(int a,int b,int c,int d,int e,int @e){}}");
        b.fault(4, "class A{void m(int a,int @a){}}");
        b.right("class A{int a;void a(int a){}void b(int A,int b,int m,int length){}}", 1);
    }

    /** "then of those of all MEMBERS, from the left; then 10, method by method" */
    private static void membersFromTheLeft(Bench b) {
        b.fault(5, "class A{@Q x;int x;int x;}");
        b.fault(4, "class A{int x;int @x;Q y;}");
        b.fault(4, "class A{int x;void m(int a,int @a){}int x;}");
        b.fault(4, "class A{void m(){}void @m(Q q){}}");
        b.fault(5, "class A{void m(@Q q,int q){}}");
        b.fault(5, "class A{@Q m(R r){}}");
        b.fault(4, "class A{void m(){y=1;}}class B extends A{int m(){}}class C{int x;int @x;}");
        b.fault(10, "class A{void m(){y=1;}}class B extends A{int @m(){}}class C{int x;}");
        b.fault(10, "class A{void m(){}void n(){}}class B extends A{int @n(){return 1;}}class C extends A{int m(){return 1;}}");
        b.fault(10, "class A{void m(){}void n(){}}class B extends A{int @n(){return 1;}int m(){return 1;}}");
        b.right("class A{int x;void x(){}boolean y;int y(){return x;}}", 1);
    }

    private static void override(Bench b, boolean right, String above, String below) {
        String text = "class A{" + above + "}class B extends A{" + below + "}";
        if (right) {
            b.right(text.replace("@", ""), 2);
        } else {
            b.fault(10, text);
        }
    }

    /** "10 OTHER: a method that is named as one of what its class extends .. and has other TYPES, or is static, or that is" */
    private static void othersByTypes(Bench b) {
        String six = "int a,int b,int c,int d,int e,int f";
        override(b, true, "void m(" + six + "){}", "void m(" + six.replace("int a", "int z") + "){}");
        String[] names = {"a", "b", "c", "d", "e", "f"};
        for (String name : names) {
            override(b, false, "void m(" + six + "){}", "void @m(" + six.replace("int " + name, "boolean " + name) + "){}");
            override(b, false, "void m(" + six + "){}", "void @m(" + six.replace("int " + name, "int[] " + name) + "){}");
        }
        override(b, false, "void m(" + six + "){}", "void @m(int a,int b,int c,int d,int e){}");
        override(b, false, "void m(int a,int b,int c,int d,int e){}", "void @m(" + six + "){}");
        override(b, false, "void m(){}", "void @m(int a){}");
        override(b, false, "void m(int a){}", "void @m(){}");
        override(b, false, "void m(){}", "int @m(){return 1;}");
        override(b, false, "int m(){return 1;}", "boolean @m(){return true;}");
        override(b, false, "A m(){return null;}", "B @m(){return null;}");
        override(b, false, "A[] m(){return null;}", "A @m(){return null;}");
        override(b, false, "int[] m(){return null;}", "A[] @m(){return null;}");
        override(b, false, "void m(A a){}", "void @m(B a){}");
        override(b, false, "void m(A[] a){}", "void @m(B[] a){}");
        override(b, false, "void m(A a){}", "void @m(Object a){}");
        override(b, true, "A[] m(B[] b,Object o){return null;}", "A[] m(B[] o,Object b){return null;}");
        override(b, false, "static void m(){}", "void @m(){}");
        override(b, false, "void m(){}", "static void @m(){}");
        override(b, false, "static void m(){}", "static void @m(){}");
        override(b, true, "int m;", "void m(){}");
        override(b, true, "void m(){}", "boolean m;");
        override(b, true, "int m;", "boolean m;");
    }

    /** "(the nearest)" */
    private static void othersNearest(Bench b) {
        b.fault(10, "class A{void m(){}}class B extends A{}class C extends B{}class D extends C{int @m(){return 1;}}");
        b.fault(10, "class A{void m(){}}class B extends A{int @m(){return 1;}}class C extends B{int m(){return 1;}}");
        b.fault(10, "class C extends B{void @m(){}}class B extends A{int m(){return 1;}}class A{void m(){}}");
        b.right("class D extends C{void m(){}}class C extends B{}class B extends A{void m(){}}class A{void m(){}}", 4);
        b.right("class A{void m(){}}class B{int m(){return 1;}}", 2);
        // what a class that is extended alone has is no matter
        b.right("class A{}class B extends A{void m(){}}class C extends A{int m(){return 1;}}", 3);
    }

    /** "A TYPE FITS itself; null's any class or array; a class those that it extends, and these extend" */
    private static void fitting(Bench b) {
        String[] types = {"int", "boolean", "A", "B", "C", "Object", "Fault", "NullFault", "int[]", "A[]", "B[]", "Object[]", "Fault[]"};
        String[] values = {"1", "true", "new A()", "new B()", "new C()", "new Object()", "new Fault()", "new NullFault()", "new int[1]", "new A[1]",
            "new B[1]", "new Object[1]", "new Fault[1]"};
        int[][] fits = {{0}, {1}, {2, 5}, {2, 3, 5}, {4, 5}, {5}, {5, 6}, {5, 6, 7}, {5, 8}, {5, 9, 11}, {5, 9, 10, 11}, {5, 11}, {5, 11, 12}};
        for (int v = 0; v < values.length; v++) {
            for (int t = 0; t < types.length; t++) {
                boolean right = false;
                for (int fit : fits[v]) {
                    right = right || fit == t;
                }
                given(b, types[t], values[v], right);
                given(b, types[t], "null", t > 1, right);
            }
        }
    }

    private static void given(Bench b, String type, String value, boolean right) {
        String head = MEMBERS + "void m(){" + type + " n@=" + value + ";}}" + OTHERS;
        if (right) {
            b.right(head.replace("@", ""), 3);
        } else {
            b.fault(6, head);
        }
    }

    private static void given(Bench b, String type, String value, boolean right, boolean wanted) {
        if (wanted) {
            given(b, type, value, right);
        }
    }

    /** "an array Object; an array of a class one of a class that this fits" */
    private static void fittingArrays(Bench b) {
        fine(b, "z=i==o;z=r==o;z=o==r;z=new B[1]==r;z=r==new B[1];z=null==i;z=i==null;z=null==null;z=new Object[1]==new C[1];");
        own(b, 6, "z=i@==r;");
        own(b, 6, "z=i@==new Object[1];");
        own(b, 6, "z=r@==a;");
        own(b, 6, "z=new C[1]@==r;");
        own(b, 6, "z=r@==1;");
        own(b, 6, "z=null@==1;");
        own(b, 6, "z=null@!=z;");
        own(b, 6, "r@=new Object[1];");
        own(b, 6, "o@=1;");
        fine(b, "o=i;o=r;o=null;o=a;Object[] p=r;p=new B[1];r=new B[1];p[0]=i;p[0]=r;p[0]=null;r[0]=new B();");
        own(b, 6, "Object[] p=r;p[0]@=1;");
        own(b, 6, "r[0]@=new C();");
        own(b, 6, "i[0]@=null;");
        fine(b, "z=o instanceof A;z=i instanceof Object;z=r instanceof Object;a=(A)o;o=(Object)r;o=(Object)i;z=null instanceof C;C c=(C)null;c=(C)o;");
        own(b, 6, "z=i instanceof @A;");
        own(b, 6, "z=r instanceof @A;");
        own(b, 6, "a=(@A)r;");
        own(b, 6, "a=(@A)i;");
        own(b, 6, "z=a instanceof @C;");
        own(b, 6, "z=1 instanceof @Object;");
        own(b, 6, "o=(@Object)z;");
    }

    /** Eight classes, each extending the one before, to the last of 0 to 7. */
    private static void longestChain(Bench b) {
        StringBuilder row = new StringBuilder("class K0 extends StoreFault{int f0;int m0(){return 0;}}");
        for (int k = 1; k < 8; k++) {
            row.append("class K").append(k).append(" extends K").append(k - 1).append("{int f").append(k).append(";");
            row.append("int m").append(k).append("(){return m0()+f0;}");
            row.append(k < 7 ? "}" : "static K0 t(K7 k){Object o=k;Fault f=k;StoreFault s=k;K0[] r=new K7[1];o=(K7)r[0];f=k.m0()>k.f0?k:f;throw k;}}");
        }
        b.right(row.toString(), 8);
        b.fault(6, row.toString().replace("throw k;", "K7 j@=r[0];throw k;"));
        b.fault(6, row.toString().replace("throw k;", "SizeFault j@=k;throw k;"));
    }

    /** "(a variable is from behind its S on ..)" */
    private static void inSightFromBehind(Bench b) {
        own(b, 5, "int n=@n;");
        own(b, 5, "int n=1+@n;");
        own(b, 5, "A n=@n.a;");
        fine(b, "int x=x;x=x+1;boolean i=i.length>0;");
        own(b, 6, "boolean x@=x;");
        own(b, 5, "@n=1;int n=2;");
        own(b, 5, "try{@e=null;}catch(Fault e){}");
        // one that is not yet in sight is no class's hindrance
        b.right("class A{static int s(){return 1;}void m(){int A=A.s();A=2;}}", 1);
        b.fault(6, "class A{static int s(){return 1;}void m(){int A=1;A=A@.s();}}");
    }

    /** "(.. to the end of the BLOCK around; that of catch in its BLOCK)" */
    private static void inSightToTheEnd(Bench b) {
        own(b, 4, "int n=1;int @n=1;");
        own(b, 4, "int n=1;{{int @n=1;}}");
        own(b, 4, "int n=1;while(z){int @n=1;}");
        own(b, 4, "int n=1;try{int @n=1;}catch(Fault e){}");
        own(b, 4, "int n=1;try{}catch(Fault @n){}");
        own(b, 4, "try{}catch(Fault n){int @n=1;}");
        own(b, 4, "try{}catch(Fault n){try{}catch(Fault @n){}}");
        own(b, 4, "try{}catch(Fault n){{{boolean @n=z;}}}");
        b.fault(4, "class A{void m(int n){int @n=1;}}");
        b.fault(4, "class A{void m(int n){{try{}catch(Fault @n){}}}}");
        fine(b, "{int n=1;}int n=1;");
        fine(b, "{int n=1;}{int n=1;{int k=n;}int k=n;}");
        fine(b, "try{int n=1;}catch(Fault n){}int n=1;");
        fine(b, "try{int n=1;}catch(Fault e){int n=1;}try{}catch(Fault e){}Fault e=null;");
        own(b, 5, "{int n=1;}@n=1;");
        own(b, 5, "try{int n=1;}catch(Fault e){@n=1;}");
        own(b, 5, "try{}catch(Fault e){}throw @e;");
        // a variable of a method is none of the next one's
        b.fault(5, "class A{void m(int n){int k=1;}void l(){@k=1;}}");
        b.fault(5, "class A{void m(int n){int k=1;}void l(){@n=1;}}");
        b.right("class A{void m(int n){int k=1;}void l(int k){int n=1;}}", 1);
    }

    /** "(one in S of if, else, while alone in that)" */
    private static void inSightAlone(Bench b) {
        fine(b, "if(z)int n=1;int n=1;");
        fine(b, "if(z)int n=1;else int n=1;while(z)int n=1;int n=1;");
        own(b, 5, "if(z)int n=1;@n=1;");
        own(b, 5, "if(z)int n=1;else @n=1;");
        own(b, 5, "if(z){}else int n=1;@n=1;");
        own(b, 5, "while(z)int n=1;@n=1;");
        own(b, 4, "int n=1;if(z)int @n=1;");
        own(b, 4, "int n=1;if(z){}else int @n=1;");
        own(b, 4, "int n=1;while(z)int @n=1;");
    }

    /** "5 UNKNOWN, at a NAME": a variable, else a field, else a class ahead of . NAME ARGS */
    private static void meanings(Bench b) {
        own(b, 5, "@A=1;");
        own(b, 5, "x=@A.x;");
        own(b, 5, "x=@A;");
        own(b, 5, "@A.a.v();");
        own(b, 5, "@A[0]=1;");
        own(b, 5, "(@A).w();");
        own(b, 5, "@Q.w();");
        own(b, 5, "@w.w();");
        own(b, 5, "A.@q();");
        own(b, 5, "A.@x();");
        own(b, 5, "C.@w();");
        own(b, 5, "Object.@w();");
        own(b, 5, "Fault.@w();");
        own(b, 5, "o.@v();");
        own(b, 5, "x=o.@x;");
        own(b, 5, "x=a.@y;");
        own(b, 5, "x=i.@x;");
        own(b, 5, "x=r.@x;");
        own(b, 5, "x=r.@length();");
        own(b, 5, "x=i.@len;");
        own(b, 5, "x=a.@length;");
        own(b, 5, "x=@length;");
        b.fault(5, "class A{@length x;}");
        b.fault(5, "class A{void m(@length[] x){}}");
        b.fault(5, "class A extends @length{}");
        own(b, 5, "@length n=null;");
        own(b, 5, "o=new @length();");
        own(b, 5, "@length.w();");
        b.right("class length{int length;static length length(length length){return length;}void m(){length=length(this).length;}}", 1);
        own(b, 6, "x=null@.length;");
        own(b, 6, "x=x@.length;");
        own(b, 6, "x=z@.q();");
        fine(b, "B.w();A.w();w();x=B.s(a,1);x=new B().x;x=new B().y;new B().v();x=i.length+r.length+new int[0].length+i.length;");
        // a field, and a variable, stand ahead of a class
        b.fault(5, "class A{B C;void m(){C.@w();}}class B{void v(){}}class C{static void w(){}}");
        b.fault(5, "class A{void m(B C){C.@w();}}class B{void v(){}}class C{static void w(){}}");
        b.right("class A{void m(){C.w();}}class C{static void w(){}}", 2);
        b.fault(6, "class A{int C;void m(){C@.w();}}class C{static void w(){}}");
        // a variable stands ahead of a field
        b.fault(6, "class A{int n;void m(boolean n){n@=1;}}");
        b.right("class A{int n;void m(boolean n){n=true;this.n=1;}}", 1);
        // the nearest field of a name
        b.fault(6, "class A{int n;}class B extends A{boolean n;void m(){n@=1;}}");
        b.right("class A{int n;}class B extends A{boolean n;void m(A a,B c){a.n=1;c.n=true;n=false;}}", 2);
    }

    /** "? with two ints, two booleans, or two others one of which fits the other (it has that TYPE): at it" */
    private static void choices(Bench b) {
        fine(b, "x=z?1:2;z=z?z:z;a=z?a:a;a=z?new B():a;a=z?a:new B();o=z?a:o;o=z?o:a;a=z?null:a;a=z?a:null;o=z?null:null;r=z?new B[1]:r;o=z?i:o;i=z?null:i;");
        own(b, 6, "x=z@?1:z;");
        own(b, 6, "x=z@?z:1;");
        own(b, 6, "x=z@?1:null;");
        own(b, 6, "a=z@?null:1;");
        own(b, 6, "o=z@?a:new C();");
        own(b, 6, "o=z@?i:r;");
        own(b, 6, "o=z@?a:r;");
        own(b, 6, "o=z@?new C[1]:r;");
        // the TYPE is the one that the other fits, on either side
        own(b, 6, "B n@=z?a:new B();");
        own(b, 6, "B n@=z?new B():a;");
        own(b, 6, "a@=z?a:o;");
        own(b, 6, "a@=z?o:a;");
        own(b, 6, "B[] n@=z?r:new B[1];");
        own(b, 6, "i@=z?i:o;");
        own(b, 5, "x=(z?new B():a).@y;");
        own(b, 5, "x=(z?a:new B()).@y;");
        fine(b, "x=(z?null:new B()).y;x=(z?new B():null).y;x=(z?new B():new B()).y;");
        own(b, 6, "x=(z?null:null)@.y;");
        own(b, 6, "x=@x?1:2;");
        own(b, 6, "x=@a?1:2;");
        own(b, 6, "x=@null?1:2;");
        own(b, 6, "x=1+(@x?1:2);");
    }

    /** "E alone as an S that is no method's call (what is in brackets is none): at its first token" */
    private static void alone(Bench b) {
        String[] none = {"x", "1", "null", "this", "true", "a.x", "i[0]", "r[0]", "i.length", "new A()", "new int[1]", "new A[1]", "f(1)+1", "-f(1)",
            "~f(1)", "(f(1))", "(v())", "g().x", "g().r[0]", "(A)g()", "z?f(1):f(1)", "f(1)==1", "g() instanceof A", "z&&z", "!z", "g().i.length"};
        for (String e : none) {
            boolean isVoid = e.equals("(v())");
            own(b, 6, isVoid ? "(@v());" : "@" + e + ";");
        }
        fine(b, "f(1);g();v();w();this.f(1);a.g().g();A.s(a,1);A.w();new A().v();r[0].g();(a).g();((A)o).v();g().a.f(1);(z?a:a).v();");
    }

    /** "one of void as a part of any other thing: at the NAME", "(of brackets, too)", "looked at when it ends" */
    private static void partsOfVoid(Bench b) {
        String[] parts = {"x=@v();", "x=1+@v();", "x=@v()+1;", "z=!@v();", "z=a.@v()&&z;", "z=z||a.@v();", "x=-@v();", "f(@v());", "x=i[@v()];", "@v()[0]=1;",
            "@v().x=1;", "a.@v().v();", "@v()=1;", "if(@v()){}", "while(a.@v()){}", "print(A.@w());", "throw @v();", "int n=@v();", "z=@v() instanceof A;",
            "o=(A)a.@v();", "x=z?1:@v();", "x=z?@v():1;", "x=a.@v()?1:2;", "i=new int[@v()];", "z=@v()==null;", "z=null==@v();", "((@v()));", "i[0]=@v();",
            "a.x=A.@w();", "s(@v(),1);", "A.s(a,A.@w());"};
        for (String part : parts) {
            own(b, 6, part);
        }
        // ahead of what stands behind it
        own(b, 6, "x=@v()+q;");
        own(b, 6, "s(@v(),q);");
        own(b, 6, "@v()=q;");
        own(b, 6, "(@v()).q();");
        b.fault(6, "class A{int m(){return @v();}void v(){}}");
        b.fault(7, "class A{void m(){@return v();}void v(){}}");
    }

    /** "A method's ARGS, as many as parameters, each fitting, at its NAME" */
    private static void howMany(Bench b) {
        String six = "int a,boolean b,A c,int[] d,A[] e,Object f";
        String head = "class A{int x;static void s(" + six + "){}void t(" + six + "){}void m(boolean z,int[] i,A[] r){";
        String right = "1,z,this,i,r,r";
        b.right(head + "s(" + right + ");t(" + right + ");A.s(" + right + ");this.t(" + right + ");s(x,!z,null,null,null,null);}}", 1);
        String[] wrong = {"1,z,this,i,r", "1,z,this,i,r,r,1", "", "z,z,this,i,r,r", "1,1,this,i,r,r", "1,z,i,i,r,r", "1,z,this,r,r,r", "1,z,this,i,i,r",
            "1,z,this,i,r,1", "null,z,this,i,r,r", "1,null,this,i,r,r", "1,z,this,i,r,z"};
        for (String args : wrong) {
            b.fault(6, head + "@s(" + args + ");}}");
            b.fault(6, head + "@t(" + args + ");}}");
            b.fault(6, head + "A.@s(" + args + ");}}");
            b.fault(6, head + "this.@t(" + args + ");}}");
        }
        b.fault(6, head + "this.@s(" + right + ");}}");
        b.fault(6, head + "A.@t(" + right + ");}}");
        own(b, 6, "@v(1);");
        own(b, 6, "@f();");
        own(b, 6, "@f(1,1);");
        own(b, 6, "a.@w();");
        own(b, 6, "x=this.@s(a,1);");
        own(b, 6, "A.@v();");
        own(b, 6, "B.@f(1);");
    }

    /** "7 AWAY" */
    private static void away(Bench b) {
        String[] fixed = {"@this.v();", "A n=@this;", "@x=1;", "int n=@x;", "@v();", "int n=@f(1);", "@a.v();", "@i[0]=1;", "@r[0].v();", "w();@v();"};
        for (String body : fixed) {
            b.fault(7, MEMBERS + "static void m(){" + body + "}}" + OTHERS);
        }
        b.fault(7, "class A{int x;void v(){}}class B extends A{static void m(){@x=1;}}");
        b.fault(7, "class A{int x;void v(){}}class B extends A{static void m(){@v();}}");
        b.right(MEMBERS + "static void m(A a,int x){a.v();a.x=x;x=1;w();new A().i=null;int n=s(a,x);boolean i=true;i=false;}}", 1);
        String[] loops = {"@break;", "@continue;", "if(z)@break;", "{@continue;}", "while(z){}@break;", "try{@break;}catch(Fault e){}",
            "try{}catch(Fault e){@continue;}", "while(z)break;@continue;", "while(true){break;}@break;"};
        for (String body : loops) {
            own(b, 7, body);
        }
        fine(b, "while(z)break;while(z)continue;while(z){if(z)break;else continue;}while(z)while(z)break;while(z){while(z){}break;}");
        fine(b, "while(z){try{break;}catch(Fault e){continue;}}while(z)if(z){{break;}}");
        b.fault(7, "class A{int m(){@return;}}");
        b.fault(7, "class A{A m(){while(true)@return;}}");
        b.fault(7, "class A{void m(){@return 1;}}");
        b.fault(7, "class A{void m(){@return null;}}");
        b.fault(7, "class A{void m(){@return m();}}");
    }

    private static void ends(Bench b, boolean can, String body) {
        String text = "class A{boolean z;int @m(){" + body + "}}";
        if (can) {
            b.fault(8, text);
            b.right("class A{boolean z;int m(){" + body + "return 7;}}", 1);
        } else {
            b.right(text.replace("@", ""), 1);
            String more = "class A{boolean z;int m(){" + body + "@z=true;}}";
            b.fault(9, more);
        }
    }

    /** "An S can end but for: return, throw, break, continue; a BLOCK with an S that can't end; if with else, try, both of whose parts can't" */
    private static void canEnd(Bench b) {
        ends(b, true, "");
        ends(b, true, "z=true;");
        ends(b, true, "int n=1;");
        ends(b, true, "print(1);");
        ends(b, true, "{}");
        ends(b, true, "m();");
        ends(b, false, "return 1;");
        ends(b, false, "throw null;");
        ends(b, false, "{return 1;}");
        ends(b, false, "{z=true;{throw null;}}");
        ends(b, true, "if(z)return 1;");
        ends(b, true, "if(true)return 1;");
        ends(b, true, "if(z)return 1;else z=true;");
        ends(b, true, "if(z)z=true;else return 1;");
        ends(b, true, "if(z){}else{}");
        ends(b, false, "if(z)return 1;else return 2;");
        ends(b, false, "if(z)return 1;else throw null;");
        ends(b, false, "if(z)return 1;else if(z)return 2;else{return 3;}");
        ends(b, true, "if(z)return 1;else if(z)return 2;");
        ends(b, true, "try{return 1;}catch(Fault e){}");
        ends(b, true, "try{z=true;}catch(Fault e){return 1;}");
        ends(b, true, "try{}catch(Fault e){}");
        ends(b, false, "try{return 1;}catch(Fault e){return 2;}");
        ends(b, false, "try{throw null;}catch(Fault e){throw e;}");
        ends(b, false, "try{try{return 1;}catch(Fault e){throw e;}}catch(Fault e){return 2;}");
        ends(b, true, "while(z)return 1;");
        ends(b, true, "while(false){}");
        ends(b, true, "while(z){break;}");
        ends(b, true, "while(z){continue;}");
    }

    /** "while (true), those two tokens in brackets alone, in which no break belongs to it" */
    private static void endless(Bench b) {
        ends(b, false, "while(true){}");
        ends(b, false, "while(true)z=true;");
        ends(b, false, "while(true)return 1;");
        ends(b, false, "while(true){if(z)return 1;}");
        ends(b, false, "while(true)continue;");
        ends(b, false, "while(true){if(z)continue;}");
        ends(b, false, "while(true)while(true){}");
        ends(b, false, "while(true){while(z)break;}");
        ends(b, false, "while(true){while(true)break;}");
        ends(b, false, "while ( true ) { }");
        ends(b, true, "while(true)break;");
        ends(b, true, "while(true){if(z)break;}");
        ends(b, true, "while(true){{{if(z){break;}}}}");
        ends(b, true, "while(true){try{break;}catch(Fault e){}}");
        ends(b, true, "while(true){try{}catch(Fault e){break;}}");
        ends(b, true, "while(true){while(z){}break;}");
        ends(b, true, "while(true){while(true){if(z)break;}break;}");
        ends(b, true, "while((true)){}");
        ends(b, true, "while(true|true){}");
        ends(b, true, "while(!false){}");
        ends(b, true, "while(true&&true){}");
        ends(b, true, "while(true==true){}");
        ends(b, true, "while(true?true:true){}");
        // of two in a row the first one's break is no matter for the second
        ends(b, false, "while(true)break;while(true){}");
        ends(b, true, "while(z)break;while(true){if(z)break;}");
    }

    /** "9 DEAD: an S that can't be reached, at its first token", ahead of its parts. */
    private static void dead(Bench b) {
        String[] stops = {"return;", "throw null;", "{return;}", "if(z)return;else return;", "while(true){}", "try{return;}catch(Fault e){return;}"};
        String[] behind = {"v();", "{}", "int n=q;", "q=1;", "return;", "if(q){}", "while(q){}", "try{q=1;}catch(Q q){}", "print(q);", "break;", "1;", "return 1;"};
        for (String stop : stops) {
            for (String s : behind) {
                own(b, 9, stop + "@" + s);
            }
        }
        own(b, 9, "while(z){break;@v();}");
        own(b, 9, "while(z){continue;@v();}");
        own(b, 9, "while(z){{break;}@break;}");
        own(b, 9, "if(z){return;@v();}else{return;}");
        own(b, 9, "try{return;@v();}catch(Fault e){}");
        own(b, 9, "try{}catch(Fault e){return;@v();}");
        // what stands in while (false), or behind a while that may go on for ever, is reached
        fine(b, "while(false){v();}if(false)v();while(z){}v();");
        fine(b, "while(true)if(z)break;else continue;v();");
        fine(b, "if(z)return;else v();v();");
        fine(b, "if(z)v();else return;v();");
    }

    private static void order(Bench b) {
        // what an E has to be at its first token is looked at when it ends
        own(b, 6, "z=@x&&q;");
        own(b, 6, "z=@x||q;");
        own(b, 6, "z=z&&@x&&q;");
        own(b, 6, "x=@x?q:q;");
        own(b, 6, "if(@x)q=1;");
        own(b, 6, "while(@x)q=1;");
        own(b, 5, "if(x+@q)v();");
        own(b, 5, "z=!@q;");
        // a NAME's meaning ahead of its ARGS, of CAST and new ahead of what stands behind it
        own(b, 5, "@q(p);");
        own(b, 5, "a.@q(p);");
        own(b, 5, "A.@q(p);");
        own(b, 5, "@Q.q(p);");
        own(b, 5, "a=(@Q)q;");
        own(b, 5, "r=new @Q[q];");
        own(b, 5, "z=@q instanceof Q;");
        own(b, 5, "f(@q,1);");
        own(b, 5, "a.w(@q);");
        own(b, 5, "A.v(@q);");
        // 4 of a variable ahead of its E, its TYPE ahead of that
        own(b, 4, "int n=1;int @n=q;");
        own(b, 5, "int n=1;@Q n=q;");
        own(b, 5, "int n=@q;int n=1;");
        // of both sides the left one first, then the sign
        own(b, 5, "x=@q+p;");
        own(b, 5, "x=z+@q;");
        own(b, 6, "x=z@+1+q;");
        own(b, 6, "x=1+z@*1;");
        own(b, 5, "i[@q]=p;");
        own(b, 5, "x[@q]=1;");
        own(b, 5, "1=@q;");
        own(b, 6, "1@=z;");
        own(b, 6, "x@[0]=q;");
        own(b, 6, "x@.q=p;");
        own(b, 5, "a.@q=p;");
        // 7 of a word ahead of its E
        own(b, 7, "@return q;");
        own(b, 5, "throw @q;");
        own(b, 6, "@throw x;");
        own(b, 5, "print(@q);");
        own(b, 6, "@print(a);");
        own(b, 6, "@print(null);");
        fine(b, "print(x);print(z);throw null;");
        // catch behind the first BLOCK, ahead of the second
        own(b, 5, "try{@q=1;}catch(Q q){}");
        own(b, 5, "try{}catch(@Q x){q=1;}");
        own(b, 6, "int n=1;try{}catch(@A n){q=1;}");
        own(b, 4, "int n=1;try{}catch(Fault @n){q=1;}");
        own(b, 6, "try{}catch(@Object e){}");
        own(b, 6, "try{}catch(@C e){}");
        fine(b, "try{}catch(Fault e){}try{}catch(StoreFault e){}");
        // 8 when the BLOCK ends, ahead of the next method
        b.fault(5, "class A{int m(){@q=1;}}");
        b.fault(8, "class A{int @m(){}void n(){q=1;}}");
        b.fault(5, "class A{void n(){@q=1;}int m(){}}");
    }

    private static String variables(int many) {
        StringBuilder row = new StringBuilder();
        for (int i = 0; i < many; i++) {
            row.append("int v").append(i).append("=1;");
        }
        return row.toString();
    }

    /** "a method with more than 30 LOCALS" */
    private static void thirtyLocals(Bench b) {
        b.right("class A{static void m(){" + variables(30) + "}}", 1);
        b.fault(11, "class A{static void @m(){" + variables(31) + "}}");
        b.right("class A{void m(){" + variables(29) + "}}", 1);
        b.fault(11, "class A{void @m(){" + variables(30) + "}}");
        b.right("class A{static void m(int a,int b,int c,int d,int e,int f){" + variables(24) + "}}", 1);
        b.fault(11, "class A{static void @m(int a,int b,int c,int d,int e,int f){" + variables(25) + "}}");
        b.right("class A{void m(int a,int b,int c,int d,int e,int f){" + variables(23) + "}}", 1);
        b.fault(11, "class A{void @m(int a,int b,int c,int d,int e,int f){" + variables(24) + "}}");
        // as many as there ever were at once
        b.right("class A{static void m(){{" + variables(30) + "}{" + variables(30) + "}}}", 1);
        b.right("class A{static void m(){" + variables(29) + "try{}catch(Fault e){}try{int n=1;}catch(Fault e){}if(true)int n=1;}}", 1);
        b.fault(11, "class A{static void @m(){" + variables(30) + "try{}catch(Fault e){}}}");
        b.fault(11, "class A{static void @m(){" + variables(30) + "if(true)int n=1;}}");
        // a FRAME with all thirty
        b.right("class A{static void m(boolean z){" + variables(29) + "if(z){}while(z){}}}", 1);
    }

    /** "a STACK above 20" */
    private static void twentyOnTheStack(Bench b) {
        String nineteen = "1+(".repeat(19);
        b.right("class A{static void m(){print(" + nineteen + "1" + ")".repeat(19) + ");}}", 1);
        b.fault(11, "class A{static void @m(){print(" + nineteen + "1+1" + ")".repeat(19) + ");}}");
        b.fault(11, "class A{static void @m(){print(" + nineteen + "~1" + ")".repeat(19) + ");}}");
        // twenty where a jump goes, in a FRAME
        b.right("class A{static void m(boolean z){print(" + nineteen + "(z?1:2)" + ")".repeat(19) + ");}}", 1);
        b.fault(11, "class A{static void @m(boolean z){print(" + nineteen + "(1+(z?1:2))" + ")".repeat(19) + ");}}");
        // a FRAME with thirty LOCALS and twenty on the stack
        b.right("class A{static void m(boolean z){" + variables(29) + "print(" + nineteen + "(z?1:2)" + ")".repeat(19) + ");}}", 1);
        // with 29 brackets it is MUCH, not DEEP
        b.fault(11, "class A{static void @m(){print(" + "1+(".repeat(29) + "1" + ")".repeat(29) + ");}}");
    }

    /** "CODE above 1,500 bytes" */
    private static void longCode(Bench b) {
        // 2 + 3 * n + 1 bytes of print(a*a*..), 2 of print(1), 3 of print(7) and the last one
        String text = "m(int a){print(a" + "*a".repeat(498) + ");";
        b.right("class A{static void " + text + "print(1);}}", 1);
        b.fault(11, "class A{static void @" + text + "print(7);}}");
        b.fault(11, "class A{static void @" + text + "print(1);print(1);}}");
        // the last of the 1,500 bytes is a jump's: back to the first
        String back = "m(int a){while(true){print(a" + "*a".repeat(497) + ");print(1);";
        b.right("class A{static void " + back + "}}}", 1);
        b.right("class A{static void " + back + "continue;}}}", 1);
        b.fault(11, "class A{static void @" + back + "print(1);}}}");
        // 1,499 and 1,501 without a result
        b.right("class A{static int m(int a){return a" + "*a".repeat(499) + ";}}", 1);
        b.fault(11, "class A{static int @m(int a){return a" + "*a".repeat(500) + ";}}");
    }

    /** "more than 20 HANDLERS" */
    private static void twentyHandlers(Bench b) {
        String one = "try{}catch(Fault e){}";
        b.right("class A{void m(){" + one.repeat(20) + "}void n(){" + one.repeat(20) + "}}", 1);
        b.fault(11, "class A{void @m(){" + one.repeat(21) + "}}");
        b.right("class A{void m(){" + "try{".repeat(20) + "}catch(Fault e){}".repeat(20) + "}}", 1);
        b.fault(11, "class A{void @m(){" + "try{".repeat(21) + "}catch(Fault e){}".repeat(21) + "}}");
    }

    /** "or 100 FRAMES" */
    private static void hundredFrames(Bench b) {
        b.right("class A{void m(boolean z){" + "z=!z;".repeat(50) + "}void n(boolean z){" + "z=!z;".repeat(50) + "}}", 1);
        b.right("class A{void m(boolean z){" + "if(z)m(z);".repeat(100) + "}}", 1);
        b.fault(11, "class A{void @m(boolean z){" + "if(z)m(z);".repeat(101) + "}}");
        b.fault(11, "class A{void @m(boolean z){" + "z=!z;".repeat(50) + "while(z){}}}");
        // two at one PLACE are one
        b.right("class A{void m(boolean z){" + "if(z)if(z)z=z;".repeat(100) + "}}", 1);
    }

    private static String numbers(int many) {
        StringBuilder row = new StringBuilder();
        for (int i = 0; i < many; i++) {
            row.append("print(").append(128 + i).append(");");
        }
        return row.toString();
    }

    /** "a class with more than 200 constants": A, its CLASS, Object, its CLASS, m, ()V, then INTS */
    private static void twoHundredConstants(Bench b) {
        b.right("class A{static void m(){" + numbers(194) + "}}", 1);
        b.fault(11, "class @A{static void m(){" + numbers(195) + "}}");
        b.fault(11, "class @A{static void m(){" + numbers(97) + "}static void n(){" + numbers(97).replace("print(1", "print(7").replace("print(2", "print(8") + "}}");
        // those of other classes are their own
        b.right("class A{static void m(){" + numbers(110) + "}}class B{static void m(){" + numbers(110) + "}}", 2);
    }

    /** The size of the IMAGE of a class whose methods have FRAMES with 30 LOCALS of a class. */
    private static String wide(int nots, int more) {
        StringBuilder row = new StringBuilder("class A{static void m(boolean z){");
        for (int i = 0; i < 29; i++) {
            row.append("A v").append((char) (i < 26 ? 'a' + i : 'A' + i - 26)).append("=null;");
        }
        return row + "z=!z;".repeat(nots) + "print(1);".repeat(more) + "}}";
    }

    /** "or an IMAGE above 6,000 bytes" */
    private static void longImage(Bench b) {
        ClassMill x = new ClassMill();
        b.due("compile", Bench.compile(x, wide(40, 0)), 1);
        int forty = x.image(0, -1);
        b.due("compile", Bench.compile(x, wide(41, 0)), 1);
        int step = x.image(0, -1) - forty;
        int nots = 40 + (6000 - forty) / step;
        int left = 6000 - forty - (nots - 40) * step;
        String full = wide(nots, left / 2);
        // a print(7) has one byte more than a print(1)
        String odd = left % 2 == 0 ? full : full.substring(0, full.length() - 11) + "print(7);}}";
        b.due("compile of 6000 bytes", Bench.compile(x, odd), 1);
        b.due("6000 bytes", x.image(0, -1), 6000);
        b.due("keep", x.keep(0), 8);
        b.due("bytes", x.type(8, 3), 6000);
        b.due("verify", x.verify(), 0);
        String more = odd.contains("print(7);}}") ? odd.replace("print(7);}}", "print(1);print(1);}}") : odd.replaceFirst("print\\(1\\);}}", "print(7);}}");
        b.due("compile of 6001 bytes", Bench.compile(x, more), -1);
        b.due("FAULT of 6001 bytes", x.fault(0), 11);
        b.due("PLACE of 6001 bytes", x.fault(1), 6);
        b.due("the IMAGE before stays", x.image(0, -1), 6000);
    }

    /** "class by class, its methods first" */
    private static void muchInOrder(Bench b) {
        String handlers = "try{}catch(Fault e){}".repeat(21);
        b.fault(11, "class A{void @m(){" + handlers + "}void n(){" + handlers + "}}class B{void m(){" + handlers + "}}");
        b.fault(11, "class A{void m(){}void @n(){" + handlers + "}}class B{void m(){" + handlers + "}}");
        b.fault(11, "class A{void m(){}}class B{void l(){}void @m(){" + handlers + "}}");
        b.fault(11, "class A{void m(){}void @n(){" + variables(31) + "}void l(){" + handlers + "}}");
        b.fault(11, "class A{static void m(){" + numbers(150) + "}static void @n(){" + variables(31) + "}static void l(){" + numbers(20).replace("print(1", "print(3")
            + numbers(40).replace("print(1", "print(4") + "}}");
        b.fault(11, "class @A{static void m(){" + numbers(195) + "}}class B{static void m(){" + variables(31) + "}}");
        b.fault(11, "class A{static void @m(){" + variables(31) + "}}class B{static void m(){" + numbers(150) + "}}");
    }

    /** "When all else is right", and a text that was MUCH leaves nothing behind for the next one. */
    private static void muchAtLast(Bench b) {
        String handlers = "try{}catch(Fault e){}".repeat(21);
        b.fault(5, "class A{void m(){" + handlers + "}void n(){@q=1;}}");
        b.fault(8, "class A{void m(){" + handlers + "}}class B{int @n(){}}");
        b.fault(6, "class A{static void m(){" + variables(31) + "}}class B{void n(){@1;}}");
        b.fault(9, "class A{static void m(){" + numbers(195) + "return;@m();}}");
        b.fault(4, "class A{static void m(){" + variables(31) + "int @v30=1;}}");
        String[] much = {"class A{void m(){" + handlers + "}}", "class A{void m(boolean z){" + "z=!z;".repeat(51) + "}}", "class A{void m(){" + numbers(195) + "}}",
            "class A{void m(){" + variables(31) + "}}", "class A{void m(int a){print(a" + "*a".repeat(500) + ");}}", "class A{void m(){print("
            + "1+(".repeat(20) + "1" + ")".repeat(20) + ");}}"};
        for (String text : much) {
            ClassMill x = new ClassMill();
            b.due("compile of " + text, Bench.compile(x, text), -1);
            b.due("FAULT of " + text, x.fault(0), 11);
            b.due("the next", Bench.compile(x, "class A{static void m(){}}"), 1);
            b.due("its FAULT", x.fault(0), 0);
            b.due("its size", x.image(0, -1), 22 + 3 + 5 + 10);
            b.due("its STACK", x.image(0, 33), 0);
            b.due("its LOCALS", x.image(0, 34), 0);
        }
    }
}
