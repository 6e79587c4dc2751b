/** Promises 4 and 6 as sections 3 and 4 have them: the bytes of the images that texts give. */
public final class ImageTest {
    public static void main(String[] args) {
        Bench b = new Bench("ImageTest");
        asking(b);
        handler(b);
        stackInFrames(b);
        framesAtOnePlace(b);
        loop(b);
        fieldsAndElements(b);
        choice(b);
        nestedTries(b);
        constantsOnce(b);
        b.end();
    }

    private static void image(Bench b, String text, int k, Bench.Row row) {
        ClassMill mill = new ClassMill();
        b.due("fault of " + text, Bench.compile(mill, text) < 0 ? mill.fault(0) : 0, 0);
        byte[] want = row.bytes();
        b.due("size of " + text, mill.image(k, -1), want.length);
        for (int i = 0; i < want.length; i++) {
            b.due("byte " + i + " of " + text, mill.image(k, i), want[i] & 255);
        }
        mill.keep(0);
        mill.keep(1);
        b.due("verify of " + text, mill.verify(), 0);
    }

    private static Bench.Row head(int constants, String name) {
        return new Bench.Row().put(74, 77, constants).text(name).put(3, 1).text("Object").put(3, 3);
    }

    private static void asking(Bench b) {
        ClassMill x = new ClassMill();
        b.due("compile", Bench.compile(x, "class A{}class B{int x;}"), 2);
        b.due("image(0, -1)", x.image(0, -1), 22);
        b.due("image(1, -1)", x.image(1, -1), 30);
        b.due("image(2, -1)", x.image(2, -1), -1);
        b.due("image(-1, -1)", x.image(-1, -1), -1);
        b.due("image(0, 22)", x.image(0, 22), -1);
        b.due("image(0, -2)", x.image(0, -2), -1);
        b.due("image(1, 29)", x.image(1, 29), 0);
        b.due("image(0, least)", x.image(0, Integer.MIN_VALUE), -1);
        image(b, "class A{}", 0, head(4, "A").put(2, 4, 0, 0));
    }

    private static void handler(Bench b) {
        Bench.Row row = head(9, "A").text("m").text("(LA;)I").put(4, 2, 5, 6).text("NullFault").put(3, 8);
        row.put(2, 4, 0, 1).put(0, 5, 6, 2, 3, 0, 11);
        row.put(0, 25, 1, 1, 182, 7, 172, 58, 2, 4, 172);
        row.put(1, 0, 0, 0, 7, 0, 7, 9);
        row.put(1, 0, 7, 2, 3, 2, 3, 2, 1, 3, 9);
        image(b, "class A{int m(A a){try{return a.m(null);}catch(NullFault e){return 1;}}}", 0, row);
    }

    private static void stackInFrames(Bench b) {
        Bench.Row row = head(11, "B").text("f").text("(LObject;[I[LB;Z)I").put(4, 2, 5, 6);
        row.text("[I").put(3, 8).text("[LB;").put(3, 10);
        row.put(2, 4, 0, 1).put(1, 5, 6, 4, 4, 0, 18);
        row.put(1, 25, 1, 25, 2, 21, 3, 153, 0, 7, 4, 167, 0, 4, 3, 184, 7, 172);
        row.put(0, 2);
        row.put(0, 14, 4, 3, 4, 3, 9, 3, 11, 1, 3, 2, 3, 9, 3, 11);
        row.put(0, 15, 4, 3, 4, 3, 9, 3, 11, 1, 4, 2, 3, 9, 3, 11, 1);
        image(b, "class B{static int f(Object o,int[] i,B[] b,boolean z){return f(null,i,b,z&&true);}}", 0, row);
    }

    private static void framesAtOnePlace(Bench b) {
        Bench.Row row = head(6, "A").text("m").text("(Z)V").put(2, 4, 0, 1).put(1, 5, 6, 1, 2, 0, 17);
        row.put(21, 0, 153, 0, 14, 4, 54, 1, 21, 0, 153, 0, 6, 5, 54, 1, 177);
        row.put(0, 1).put(0, 16, 1, 1, 0);
        image(b, "class A{static void m(boolean b){if(b){int x=1;if(b){x=2;}}}}", 0, row);
    }

    private static void loop(Bench b) {
        Bench.Row row = head(6, "A").text("m").text("(I)V").put(2, 4, 0, 1).put(1, 5, 6, 2, 1, 0, 27);
        row.put(21, 0, 4, 159, 0, 7, 3, 167, 0, 4, 4, 153, 0, 6, 167, 0, 12);
        row.put(21, 0, 4, 100, 54, 0, 167, 255, 233, 177);
        row.put(0, 5).put(0, 0, 1, 1, 0).put(0, 10, 1, 1, 0).put(0, 11, 1, 1, 1, 1).put(0, 17, 1, 1, 0).put(0, 26, 1, 1, 0);
        image(b, "class A{static void m(int n){while(true){if(n==1)break;n=n-1;continue;}}}", 0, row);
    }

    private static void fieldsAndElements(Bench b) {
        // the object, what is given, then the MEMBER: its constants come behind those of what is given
        Bench.Row row = head(13, "A").text("a").text("[LA;").text("m").text("()V");
        row.put(2, 0, 0, 0, 128).put(4, 2, 5, 6).put(2, 127, 255, 255, 255).text("B").put(3, 12);
        row.put(2, 4, 1, 5, 6, 1).put(0, 7, 8, 4, 2, 0, 44);
        row.put(25, 0, 18, 9, 189, 2, 181, 10);
        row.put(25, 0, 180, 10, 16, 127, 187, 2, 83);
        row.put(18, 11, 188, 10, 58, 1);
        row.put(25, 1, 8, 25, 1, 6, 46, 116, 79);
        row.put(25, 1, 190, 2, 130, 186);
        row.put(25, 0, 193, 13, 186);
        row.put(177);
        row.put(0, 0);
        image(b, "class A{A[] a;void m(){a=new A[128];a[127]=new A();int[] i=new int[2147483647];i[5]=-i[3];"
            + "print(~i.length);print(this instanceof B);}}class B extends A{}", 0, row);
    }

    private static void choice(Bench b) {
        // at the end of a choice its own TYPE is on the stack
        Bench.Row row = head(6, "A").text("m").text("(ZLA;)LObject;").put(2, 4, 0, 1).put(1, 5, 6, 1, 2, 0, 12);
        row.put(21, 0, 153, 0, 7, 1, 167, 0, 5, 25, 1, 176);
        row.put(0, 2).put(0, 9, 2, 1, 3, 2, 0).put(0, 11, 2, 1, 3, 2, 1, 3, 2);
        image(b, "class A{static Object m(boolean b,A a){return b?null:a;}}", 0, row);
    }

    private static void nestedTries(Bench b) {
        Bench.Row row = head(10, "A").text("m").text("()V").text("CastFault").put(3, 7).text("Fault").put(3, 9);
        // 0 outer try, 1 inner try, 2 print, 4 over, 7 at the CastFault, 9 print, 11 over all, 14 at the Fault, 16 print
        row.put(2, 4, 0, 1).put(1, 5, 6, 1, 1, 0, 21);
        row.put(0, 0, 4, 186, 167, 0, 7, 58, 0, 5, 186, 167, 0, 7, 58, 0, 6, 186, 4, 186, 177);
        row.put(2).put(0, 1, 0, 4, 0, 7, 8).put(0, 0, 0, 11, 0, 14, 10);
        row.put(4).put(0, 7, 0, 1, 3, 8).put(0, 11, 0, 0).put(0, 14, 0, 1, 3, 10).put(0, 18, 0, 0);
        image(b, "class A{static void m(){try{try{print(1);}catch(CastFault e){print(2);}}catch(Fault e){print(3);}print(1);}}", 0, row);
    }

    private static void constantsOnce(Bench b) {
        // one TEXT for a class, a field and a kind that are written alike
        Bench.Row row = new Bench.Row().put(74, 77, 5).text("I").put(3, 1).text("Object").put(3, 3).text("x");
        row.put(2, 4, 2, 1, 1, 5, 1, 0);
        image(b, "class I{int I;int x;}", 0, row);
    }
}
