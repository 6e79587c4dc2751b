/** The boundary sentences of section 1, as promises 4 and 5 answer them: tokens, grammar, FAULTS 1 to 3. */
public final class EdgeTextTest {
    public static void main(String[] args) {
        Bench b = new Bench("EdgeTextTest");
        atMost3000Bytes(b);
        blanks(b);
        remarks(b);
        namesBegin(b);
        namesGoOn(b);
        twelveAtMost(b);
        words(b);
        numbers(b);
        numbersBehind(b);
        asLongAsCanBe(b);
        otherBytes(b);
        atLeastOneClass(b);
        nothingInside(b);
        theTextsEnd(b);
        casts(b);
        instanceofBindsAs(b);
        fromTheLoosest(b);
        fromTheLeft(b);
        deepStatements(b);
        deepValuesOfStatements(b);
        deepValuesInValues(b);
        deepSigns(b);
        deepMixed(b);
        firstToken(b);
        ofSeveral(b);
        b.end();
    }

    private static final String MEMBERS = "class A{int x;boolean z;int[] i;A a;static int f(int n){return n;}static boolean g(boolean n){return n;}";

    private static void inMethod(Bench b, int fault, String marked) {
        b.fault(fault, MEMBERS + "void m(){" + marked + "}}");
    }

    private static void fine(Bench b, String body) {
        b.right(MEMBERS + "void m(){" + body + "}}", 1);
    }

    private static String many(String part, int times) {
        return part.repeat(times);
    }

    /** "at most 3,000 bytes"; "a TEXT of more than 3,000 bytes has FAULT 1 at 3000", whatever else it has. */
    private static void atMost3000Bytes(Bench b) {
        b.right("class A{}" + many(" ", 2991), 1);
        b.right(many("\n", 2991) + "class A{}", 1);
        b.fault(2, "class A{}" + many(" ", 2990) + "@}");
        b.fault(2, many(" ", 3000) + "@");
        String[] tooLong = {"class A{}" + many(" ", 2992), "#" + many(" ", 3000), many("}", 3001), many(" ", 6000), many("x", 4000),
            many(" ", 3000) + "#"};
        for (String text : tooLong) {
            ClassMill x = new ClassMill();
            b.due("compile of " + text.length() + " bytes", Bench.compile(x, text), -1);
            b.due("FAULT of " + text.length() + " bytes", x.fault(0), 1);
            b.due("PLACE of " + text.length() + " bytes", x.fault(1), 3000);
        }
    }

    /** "between them blanks (32, 10)" and no other byte. */
    private static void blanks(Bench b) {
        b.right("\n class \n A \n{ \n}\n ", 1);
        b.right("class\nA{}", 1);
        b.right("class A{int[]a;A[]b;void m(){int[]c=a;c[0]=1;}}", 1);
        int[] others = {0, 1, 8, 9, 11, 12, 13, 14, 31, 127, 128, 138, 160, 255};
        for (int other : others) {
            b.fault(1, "class A@" + (char) other + "{}");
            b.fault(1, "@" + (char) other + "class A{}");
        }
    }

    /** "remarks (from // to a 10, or the end)" */
    private static void remarks(Bench b) {
        b.right("//\nclass A{}", 1);
        b.right("class A{}//", 1);
        b.right("class A{}//\n", 1);
        b.right("class//class B{\nA//\n//\n{//}\n}//", 1);
        b.right("class A{}// class B # \r \0 \u00ff // /* class", 1);
        b.right("class A{int x;///\nint y;}", 1);
        b.fault(2, "//class A{}@");
        b.fault(2, "//class A{}\r@");
        b.fault(1, "//\n@#");
        b.fault(2, "class A{}@/");
        b.fault(2, "class A{}@/ /");
        b.fault(2, "class A{}@/\n/");
        b.fault(2, "class A{}@/*//*/");
    }

    /** "NAMES: a letter, then .."; what stands just outside of the letters begins none. */
    private static void namesBegin(Bench b) {
        String[] letters = {"A", "Z", "a", "z", "m", "M"};
        for (String letter : letters) {
            b.right("class " + letter + "{}", 1);
        }
        String[] others = {"`", "_", "$", "\\", "^"};
        for (String other : others) {
            boolean sign = other.equals("^");
            b.fault(sign ? 2 : 1, "class @" + other + "{}");
        }
        b.fault(2, "class @[{}");
        b.fault(2, "class @{{}");
        b.fault(2, "class @9{}");
        b.fault(1, "class @9a{}");
        b.fault(2, "class A{int @0;}");
    }

    /** ".. then letters, digits, _": the last of each is one, the byte behind it is not. */
    private static void namesGoOn(Bench b) {
        b.right("class aZ09_zA{int A_;int a9;int b0;int c__;int dZ;int ez;int fA;int ga;}", 1);
        b.fault(2, "class A@/{}");
        b.fault(2, "class A@:{}");
        b.fault(2, "class A@[{}");
        b.fault(2, "class A@^{}");
        b.fault(1, "class A@`{}");
        b.fault(1, "class A@${}");
    }

    /** "12 at most in all"; one that is longer is none, from its first byte on. */
    private static void twelveAtMost(Bench b) {
        b.right("class abcdefghijkl{int a2345678901_;int b___________;}", 1);
        b.fault(1, "class @abcdefghijklm{}");
        b.fault(1, "class A{int @a234567890123;}");
        b.fault(1, "class A{int @a____________;}");
        b.fault(1, "class A{int @" + many("a", 100) + ";}");
        b.fault(1, "class A extends @" + many("a", 13));
        b.fault(2, "class A extends " + many("a", 12) + "@");
        b.fault(1, "@instanceof123{}");
    }

    /** "WORDS": none of them is a NAME, and what is longer, shorter or written otherwise is one. */
    private static void words(Bench b) {
        String[] words = ("boolean break catch class continue else extends false if instanceof int new null print return static this "
            + "throw true try void while").split(" ");
        for (String word : words) {
            b.fault(2, "class @" + word + "{}");
            b.fault(2, "class A{int @" + word + ";}");
            b.fault(2, "class A{void m(int @" + word + "){}}");
            b.right("class " + word + "_{int " + word + "1;}", 1);
            b.right("class " + word.toUpperCase() + "{}", 1);
            String shorter = word.substring(0, word.length() - 1);
            b.right("class " + shorter + "{}", 1);
        }
        b.right("class A{int length;int public;int final;int void1;int char;}", 1);
        // for, do, interface and the like are NAMES
        b.right("class for{do switch(){return null;}}class do{}", 2);
    }

    /** "NUMBERS: digits (0, or without a 0 ahead; a row of digits is one token, or none), up to 2147483647" */
    private static void numbers(Bench b) {
        fine(b, "x=0;x=9;x=10;x=19;x=2147483646;x=2147483647;x=1000000000;x=i[0];");
        inMethod(b, 1, "x=@2147483648;");
        inMethod(b, 1, "x=-@2147483648;");
        inMethod(b, 1, "x=@2147483650;");
        inMethod(b, 1, "x=@3000000000;");
        inMethod(b, 1, "x=@4294967296;");
        inMethod(b, 1, "x=@4294967297;");
        inMethod(b, 1, "x=@10000000000;");
        inMethod(b, 1, "x=@18446744073709551616;");
        inMethod(b, 1, "x=@18446744073709551617;");
        inMethod(b, 1, "x=@1" + many("0", 60) + ";");
        inMethod(b, 1, "x=@" + many("9", 500) + ";");
        inMethod(b, 1, "x=@00;");
        inMethod(b, 1, "x=@01;");
        inMethod(b, 1, "x=@09;");
        inMethod(b, 1, "x=@0000000000;");
        inMethod(b, 1, "x=@02147483647;");
        inMethod(b, 2, "x=1 @2;");
        inMethod(b, 2, "x=0 @0;");
    }

    /** "no letter or _ right behind" */
    private static void numbersBehind(Bench b) {
        String[] behind = {"a", "z", "A", "Z", "_", "x1", "int", "L"};
        for (String next : behind) {
            inMethod(b, 1, "x=@0" + next + ";");
            inMethod(b, 1, "x=@12" + next + ";");
        }
        inMethod(b, 2, "x=1 @a;");
        inMethod(b, 6, "x=1@[0];");
        inMethod(b, 1, "x=1@`;");
        inMethod(b, 6, "x=1@.a;");
        inMethod(b, 2, "x=1@{;");
        fine(b, "x=1+0-2*3;");
    }

    /** "TOKENS, each as long as can be" */
    private static void asLongAsCanBe(Bench b) {
        fine(b, "x=1>>>2;x=1>>2;z=1>2;z=1>=2;x=1<<2;z=1<2;z=1<=2;z=1==2;z=1!=2;z=z&&z;z=z&z;z=z||z;z=z|z;z=!z;z=!!z;x=- -1;x=1- -1;");
        inMethod(b, 2, "x=1>>>@>2;");
        inMethod(b, 2, "x=1>>@=2;");
        inMethod(b, 2, "x=1>>>@>>2;");
        inMethod(b, 2, "x=1> @>2;");
        inMethod(b, 2, "x=1<<@<2;");
        inMethod(b, 2, "x=1<=@=2;");
        inMethod(b, 2, "x=1==@=2;");
        inMethod(b, 2, "x=1@= =2;");
        inMethod(b, 2, "z=z&&@&z;");
        inMethod(b, 2, "z=z||@|z;");
        inMethod(b, 2, "z=z& @&z;");
        inMethod(b, 2, "x+@=1;");
        inMethod(b, 2, "x+@+;");
        fine(b, "z=1!=-2;z=z==!z;x=1<<-1;z=x>-1;x=1/-1;x=~-~x;");
        b.right("class classA{classA intx(){return null;}}", 1);
        inMethod(b, 5, "@returnx=1;");
        inMethod(b, 5, "@thisx=1;");
    }

    /** "no token begins so" */
    private static void otherBytes(Bench b) {
        StringBuilder signs = new StringBuilder("(){}[];,.?:=!<>+-*/%&|^~");
        for (int c = 0; c < 256; c++) {
            boolean letter = (c >= 'a' && c <= 'z') || (c >= 'A' && c <= 'Z');
            boolean digit = c >= '0' && c <= '9';
            boolean known = letter || digit || c == 32 || c == 10 || signs.indexOf(String.valueOf((char) c)) >= 0;
            ClassMill x = new ClassMill();
            b.due("compile", Bench.compile(x, "class A{}" + (char) c + "\nclass B{}"), c == 32 || c == 10 ? 2 : -1);
            b.due("FAULT of byte " + c, x.fault(0), known ? c == 32 || c == 10 ? 0 : 2 : 1);
            b.due("PLACE of byte " + c, x.fault(1), c == 32 || c == 10 ? -1 : 9);
        }
    }

    /** "PROGRAM: CLASS {CLASS}" */
    private static void atLeastOneClass(Bench b) {
        b.fault(2, "@");
        b.fault(2, " @");
        b.fault(2, "\n\n\n@");
        b.fault(2, "//@");
        b.fault(2, "// class A{}\n@");
        b.fault(2, "@{}");
        b.fault(2, "@int x;");
        b.right("class A{}", 1);
        b.right("class A{}class B{}", 2);
        b.fault(2, "class A{}@x");
        b.fault(2, "class A{}@static class B{}");
    }

    /** Where the grammar has {..} or [..], nothing at all may stand. */
    private static void nothingInside(Bench b) {
        b.right("class A{void m(){}}", 1);
        b.right("class A{void m(){{}{{}}}}", 1);
        b.right("class A{void m(){try{}catch(Fault e){}return;}}", 1);
        b.right("class A{void m(){if(true){}if(true){}else{}while(false){}}}", 1);
        b.right("class A{int m(){return this.m();}}", 1);
        b.fault(2, "class A{void m(@,){}}");
        b.fault(2, "class A{void m(){m(@,);}}");
        b.fault(2, "class A{void m(){m(1@}}");
        b.fault(2, "class A{void m(){if(true)@;}}");
        b.fault(2, "class A{void m(){if(true){}else@}}");
        b.fault(2, "class A{void m(){while(true)@}}");
        b.fault(2, "class A{void m(){if(true)@else{}}}");
        b.fault(2, "class A{void m(){if(true){}else{}@else{}}}");
        b.fault(2, "class A{void m(){try{}catch(Fault e)@print(1);}}");
        b.fault(2, "class A{void m(){try{}catch(Fault e)@return;}}");
        b.fault(2, "class A{void m(){try @return;catch(Fault e){}}}");
        b.fault(2, "class A{void m(){new int[@]=1;}}");
        b.fault(2, "class A{void m()@}");
        b.fault(2, "class A{@extends B{}}");
        b.fault(2, "class A extends@{}");
        // an else belongs to the nearest if
        b.right("class A{int m(boolean z){if(z)if(z)return 1;else return 2;return 3;}}", 1);
        b.fault(8, "class A{int @m(boolean z){if(z)if(z)return 1;else return 2;}}");
        b.right("class A{int m(boolean z){if(z)if(z)return 1;else return 2;else return 3;}}", 1);
        b.fault(2, "class A{int m(boolean z){if(z)return 1;else return 2;@else return 3;}}");
    }

    /** "(of the text's end: its length)" */
    private static void theTextsEnd(Bench b) {
        String text = "class A extends B{int[]x;static A[]f(int a,A b){int c=(1+f(a,b).length)*c[1];if(c<1)return;else{while(true)break;}"
            + "try{throw new A();}catch(Fault e){print(a?1:2);}return(A)null instanceof A;}}";
        for (int n = 0; n < text.length(); n++) {
            ClassMill x = new ClassMill();
            String part = text.substring(0, n);
            b.due("compile of " + part, Bench.compile(x, part), -1);
            b.due("FAULT of " + part, x.fault(0), 2);
            b.due("PLACE of " + part, x.fault(1) == n || isCutWord(text, n, x.fault(1)), true);
        }
        b.fault(2, "class A{   @");
        b.fault(2, "class A{ // x\n @");
        b.fault(2, "class A{ // x@");
    }

    private static boolean isPart(char c) {
        return Character.isLetterOrDigit(c) || c == '_';
    }

    /** A WORD of which a part is left is another token, which may not stand there. */
    private static boolean isCutWord(String text, int n, int place) {
        boolean letters = place < n;
        for (int i = place; i < n && letters; i++) {
            letters = isPart(text.charAt(i));
        }
        return letters && n < text.length() && isPart(text.charAt(n));
    }

    /** "( NAME ) U (a CAST, if behind that ) stands a NAME, a NUMBER, ( ! ~ this new null true false)" */
    private static void casts(Bench b) {
        fine(b, "a=(A)a;a=(A)(a);a=(A)this;a=(A)new A();a=(A)null;a=(A)(A)a;Object o=(Object)(a);");
        inMethod(b, 6, "a=(@A)1;");
        inMethod(b, 6, "a=(@A)!z;");
        inMethod(b, 6, "a=(@A)~x;");
        inMethod(b, 6, "a=(@A)true;");
        inMethod(b, 6, "a=(@A)false;");
        // a - behind it is one between two U's, as are all other signs
        fine(b, "x=(x)-1;x=(x)-(x);x=(x)+1;x=(x)*x;z=(z)==z;z=(a)instanceof A;x=(i)[0];x=(i).length;x=(x);");
        inMethod(b, 5, "a=(@A)-a;");
        inMethod(b, 5, "x=(@y)-1;");
        // what is no NAME alone in brackets is none
        inMethod(b, 2, "a=(a.a)@a;");
        inMethod(b, 2, "x=(1)@1;");
        inMethod(b, 2, "a=((A))@a;");
        inMethod(b, 2, "a=(@int)x;");
        inMethod(b, 2, "i=(A[@])i;");
        // a bracket that belongs to another thing is no CAST's
        fine(b, "if(z)x=1;while(z)x=1;if(!z)x=1;if(!z){}while(!z)f(1);if(-x<1)f(1);if(z)this.x=1;if(z)new A().x=1;");
        inMethod(b, 6, "if(@-x)x=1;");
        inMethod(b, 6, "if(!@x)x=1;");
        inMethod(b, 6, "if(@~x)(x)=1;");
    }

    /** "< <= > >= and instanceof (a NAME behind it)", one level, all from the left. */
    private static void instanceofBindsAs(Bench b) {
        inMethod(b, 6, "z=a instanceof A@<1;");
        inMethod(b, 6, "z=a instanceof A@>=x;");
        inMethod(b, 6, "z=a instanceof A instanceof @A;");
        inMethod(b, 6, "z=1<2 instanceof @A;");
        fine(b, "z=a instanceof A==z;z=a instanceof A!=a instanceof A;z=a instanceof A&z|a instanceof A^z&&a instanceof A||z;x=a instanceof A?1:2;");
        fine(b, "z=(A)a instanceof A;z=this instanceof A;z=null instanceof A;z=new A()instanceof A;");
        String[] tighter = {"<<", ">>", ">>>", "+", "-", "*", "/", "%"};
        for (String sign : tighter) {
            inMethod(b, 2, "z=a instanceof A@" + sign + "1;");
        }
        inMethod(b, 2, "z=a instanceof A@.a;");
        inMethod(b, 2, "z=a instanceof A@[0];");
        inMethod(b, 2, "z=a instanceof A@();");
        inMethod(b, 2, "z=a instanceof @(A);");
        inMethod(b, 2, "z=a instanceof @this;");
        inMethod(b, 6, "z=!@a instanceof A;");
        inMethod(b, 6, "z=a@+a instanceof A;");
    }

    private static int value(Bench b, String value) {
        ClassMill x = b.ran("class A{static int m(){return " + value + ";}}", 8, 0);
        b.due("state of " + value, x.look(0), 2);
        return x.look(1);
    }

    private static int truth(Bench b, String value) {
        ClassMill x = b.ran("class A{static boolean m(){return " + value + ";}}", 8, 0);
        return x.look(1);
    }

    /** "from the loosest: || then && then | then ^ then & then == != then < .. then << .. then + - then * / %" */
    private static void fromTheLoosest(Bench b) {
        b.due("|| looser than &&", truth(b, "true||true&&false"), 1);
        b.due("&& tighter than ||", truth(b, "false&&true||true"), 1);
        b.due("&& looser than |", truth(b, "false&&true|true"), 0);
        b.due("| tighter than &&", truth(b, "true|true&&false"), 0);
        b.due("| looser than ^", value(b, "1|1^1"), 1);
        b.due("^ tighter than |", value(b, "1^1|1"), 1);
        b.due("^ looser than &", value(b, "2^3&1"), 3);
        b.due("& tighter than ^", value(b, "1&2^3"), 3);
        b.due("& looser than ==", truth(b, "false&true==false"), 0);
        b.due("== tighter than &", truth(b, "false==true&false"), 0);
        b.due("!= tighter than &", truth(b, "true!=true&true"), 0);
        b.due("== looser than <", truth(b, "true==1<2"), 1);
        b.due("< tighter than ==", truth(b, "1>=2==false"), 1);
        b.due("< looser than <<", truth(b, "1<1<<1"), 1);
        b.due("<< tighter than <", truth(b, "1<<1<=1"), 0);
        b.due("<< looser than +", value(b, "1<<1+1"), 4);
        b.due("+ tighter than <<", value(b, "1+1<<1"), 4);
        b.due(">> looser than -", value(b, "8>>2-1"), 4);
        b.due("- tighter than >>>", value(b, "9-1>>>1"), 4);
        b.due("+ looser than *", value(b, "1+2*3"), 7);
        b.due("* tighter than +", value(b, "2*3+1"), 7);
        b.due("- looser than %", value(b, "7-4%3"), 6);
        b.due("/ tighter than -", value(b, "6/2-1"), 2);
        b.due("? looser than ||", value(b, "false||true?1:2"), 1);
        b.due("- of one tighter than *", value(b, "-2*-3"), 6);
        b.due("~ tighter than +", value(b, "~1+1"), -1);
        b.due("! tighter than ==", truth(b, "!true==true"), 0);
        b.due("all at once", truth(b, "false||true&&false|true^true&true==1<2+3*4<<1"), 0);
        b.due("all at once, but for one", truth(b, "false||true&&false|true^false&true==1<2+3*4<<1"), 1);
    }

    /** "all from the left"; the choice has an E on each side of : */
    private static void fromTheLeft(Bench b) {
        b.due("-", value(b, "10-3-2"), 5);
        b.due("- +", value(b, "10-3+2"), 9);
        b.due("/", value(b, "100/10/5"), 2);
        b.due("/ *", value(b, "100/10*5"), 50);
        b.due("% *", value(b, "7%4*2"), 6);
        b.due("<<", value(b, "1<<2<<3"), 32);
        b.due(">> <<", value(b, "7>>1<<1"), 6);
        b.due("==", truth(b, "1==2==false"), 1);
        b.due("!=", truth(b, "1!=2!=true"), 0);
        b.due("? in ? ahead of :", value(b, "true?false?1:2:3"), 2);
        b.due("? behind :", value(b, "false?1:false?2:3"), 3);
        b.due("? behind : and sum", value(b, "true?1:2+3"), 1);
    }

    private static String numbered(String part, int times) {
        StringBuilder row = new StringBuilder();
        for (int i = 0; i < times; i++) {
            row.append(part.replace("#", "" + i));
        }
        return row.toString();
    }

    /** "DEEP: an S .. within 40 of these (at its first token; the BLOCKS of methods and of try are no S)" */
    private static void deepStatements(Bench b) {
        // more than twenty HANDLERS would be MUCH: so twenty tries stand within twenty blocks
        String[] ahead = {many("{", 39), many("{", 20) + many("try{", 19), many("{", 20) + numbered("try{}catch(Fault e#){", 19)};
        String[] behind = {many("}", 39), many("}catch(Fault e){}", 19) + many("}", 20), many("}", 39)};
        String[] within = {"{}", "return;", "f(1);", "int y=1;", "if(z){}", "while(z){}", "try{}catch(Fault y){}", "print(1);", "x=1;", "throw null;"};
        for (int form = 0; form < ahead.length; form++) {
            fine(b, ahead[form] + "{}" + behind[form]);
            fine(b, ahead[form] + "return;" + behind[form]);
            fine(b, ahead[form] + "try{}catch(Fault y){}" + behind[form]);
            for (String s : within) {
                inMethod(b, 3, ahead[form] + "{@" + s + "}" + behind[form]);
                inMethod(b, 3, ahead[form] + "try{@" + s + "}catch(Fault y){}" + behind[form]);
                inMethod(b, 3, ahead[form] + "try{}catch(Fault y){@" + s + "}" + behind[form]);
            }
        }
        // an S of if, else or while is within it, but so is its E, which stands ahead
        String[] words = {"if(@z)", "if(@z){}else ", "while(@z)", "while(@true)"};
        for (String word : words) {
            String part = word.replace("@", "");
            fine(b, many(part, 39) + "{}");
            fine(b, many(part, 39) + "return;");
            fine(b, many("{", 38) + part + "return;" + many("}", 38));
            inMethod(b, 3, many(part, 39) + word + "{}");
            inMethod(b, 3, many("{", 39) + word + "{}" + many("}", 39));
            inMethod(b, 3, many("{", 38) + part + "{@{}}" + many("}", 38));
            inMethod(b, 3, many("{", 38) + part + "@x=1;" + many("}", 38));
        }
        // in the fortieth the first E is too deep
        fine(b, many("{", 38) + "m();x=1;int y=x;print(1);return;" + many("}", 38));
        String[] fortieth = {"@f(1);", "@x=1;", "int y=@1;", "print(@1);", "return @1;", "throw @null;", "if(@z){}", "while(@z){}"};
        for (String s : fortieth) {
            inMethod(b, 3, many("{", 39) + s + many("}", 39));
        }
        // what stands behind a BLOCK is no deeper for it
        fine(b, many("{", 40) + many("}", 40) + "x=" + brackets(38, "1") + ";" + many("{", 40) + many("}", 40));
        b.right("class A{void m(){" + many("{", 40) + many("}", 40) + "}void n(){" + many("{", 40) + many("}", 40) + "}}", 1);
    }

    private static String brackets(int times, String inside) {
        return many("(", times) + inside + many(")", times);
    }

    /** An E of an S is within that S: with 38 brackets around it the innermost is within 39, with 39 within 40. */
    private static void deepValuesOfStatements(Bench b) {
        String[] ahead = {"x=", "int y=", "print(", "if(1<", "while(2<", "f(", "i[", "x=i[", "x=i.length+", "z=z&&1<", "this.x="};
        String[] behind = {";", ";", ");", "){}", "){}", ");", "]=1;", "];", ";", ";", ";"};
        int[] inside = {0, 0, 0, 0, 0, 1, 1, 1, 0, 0, 0};
        for (int i = 0; i < ahead.length; i++) {
            int left = 38 - inside[i];
            fine(b, ahead[i] + brackets(left, "1") + behind[i]);
            inMethod(b, 3, ahead[i] + brackets(left + 1, "@1") + behind[i]);
            inMethod(b, 3, ahead[i] + brackets(left + 1, "@x") + behind[i]);
        }
        b.right("class A{int m(){return " + brackets(38, "1") + ";}}", 1);
        b.fault(3, "class A{int m(){return " + brackets(39, "@1") + ";}}");
        b.right("class A{int m(){throw " + brackets(38, "null") + ";}}", 1);
        b.fault(3, "class A{int m(){throw " + brackets(39, "@null") + ";}}");
        // left of = and right of it are two
        fine(b, "i[" + brackets(37, "1") + "]=" + brackets(38, "1") + ";");
        inMethod(b, 3, "i[" + brackets(37, "1") + "]=" + brackets(39, "@1") + ";");
    }

    /** An E in another one: each of these is one more. */
    private static void deepValuesInValues(Bench b) {
        String[] parts = {"(", "f(", "i[", "new int[", "z?", "z?@1:", "1+(", "@-1*f(", "f(@1)+i[", "i[@1]+i["};
        String[] behind = {")", ")", "]", "].length", ":1", "", ")", ")", "]", "]"};
        for (int i = 0; i < parts.length; i++) {
            String part = parts[i].replace("@", "");
            // what has to wait on the stack may be MUCH, but is not DEEP
            notDeep(b, "x=" + many(part, 38) + "1" + many(behind[i], 38) + ";");
            boolean own = !part.equals(parts[i]);
            inMethod(b, 3, "x=" + many(part, 38) + parts[i] + (own ? "1" : "@1") + many(behind[i], 39) + ";");
        }
        // behind a point or a bracket, and in a row, nothing is within another
        fine(b, "x=" + many("a.", 120) + "x;");
        b.right("class A{int x;A s(int n){return this;}void m(){x=this" + many(".s(1)", 100) + ".x;}}", 1);
        b.right("class A{int x;A s(int n){return this;}void m(){x=this.s(" + brackets(37, "1") + ")" + many(".s(1)", 50) + ".x;}}", 1);
        b.fault(3, "class A{int x;A s(int n){return this;}void m(){x=this.s(1).s(" + brackets(38, "@1") + ").x;}}");
        fine(b, "x=" + many("1+", 400) + "1;");
    }

    private static void notDeep(Bench b, String body) {
        ClassMill x = new ClassMill();
        Bench.compile(x, MEMBERS + "void m(){" + body + "}}");
        b.due("FAULT of " + body, x.fault(0) == 0 || x.fault(0) == 11, true);
    }

    /** "or a U that has a sign or CAST": the first is within the S and the E. */
    private static void deepSigns(Bench b) {
        String[] signs = {"-", "~", "!", "(A)", "(Object)(A)", "-~"};
        String[] ends = {"1", "1", "z", "a", "a", "1"};
        String[] ahead = {"x=", "x=", "z=", "a=", "Object o=", "x="};
        for (int i = 0; i < signs.length; i++) {
            int step = signs[i].length() > 3 || signs[i].length() == 2 ? 2 : 1;
            fine(b, ahead[i] + many(signs[i], 38 / step) + ends[i] + ";");
            inMethod(b, 3, ahead[i] + many(signs[i], 38 / step) + "@" + signs[i] + ends[i] + ";");
        }
        // behind a sign between two U's as well
        fine(b, "x=1+" + many("-", 38) + "1;x=1*" + many("~", 38) + "1;z=z&&" + many("!", 38) + "z;");
        inMethod(b, 3, "x=1+" + many("-", 38) + "@-1;");
        inMethod(b, 3, "x=1*2-" + many("~", 38) + "@~1;");
        inMethod(b, 3, "z=z||" + many("!", 38) + "@!z;");
        // a U without any is none
        fine(b, "x=" + many("-", 38) + "x;x=" + many("-", 38) + "i.length;x=" + many("-", 37) + "f(1);");
        inMethod(b, 3, "x=" + many("-", 38) + "f(@1);");
        inMethod(b, 3, "x=" + many("-", 38) + "(@1);");
        fine(b, "x=" + many("-", 37) + "(1);");
        inMethod(b, 3, "x=" + many("-", 37) + "(@-1);");
        fine(b, "x=" + many("-", 36) + "(-1);");
    }

    private static void deepMixed(Bench b) {
        // S and S and E and U and E ..
        fine(b, many("{", 18) + "x=" + many("-(", 10) + "1" + many(")", 10) + ";" + many("}", 18));
        fine(b, many("{", 18) + "x=" + many("-(", 10) + "1" + many(")", 10) + ";x=1;" + many("}", 18));
        inMethod(b, 3, many("{", 19) + "x=" + many("-(", 9) + "-(@1)" + many(")", 9) + ";" + many("}", 19));
        inMethod(b, 3, many("{", 18) + "x=" + many("-(", 10) + "@-1" + many(")", 10) + ";" + many("}", 18));
        inMethod(b, 3, many("if(z)", 38) + "x=(@1);");
        fine(b, many("if(z)", 38) + "x=1;");
        inMethod(b, 3, many("if(z)", 38) + "f(@1);");
        inMethod(b, 3, many("if(z)", 38) + "x=@-1;");
        inMethod(b, 3, many("if(z)", 38) + "a=@(A)a;");
        inMethod(b, 3, many("if(z)", 38) + "x=i[@1];");
        inMethod(b, 3, many("if(z)", 38) + "x=z?@1:2;");
        inMethod(b, 3, many("if(z)", 39) + "@x=1;");
        inMethod(b, 3, many("if(z)", 39) + "if(@z)x=1;");
        fine(b, many("if(z)", 37) + "x=-1;" + "x=f(1);x=z?1:2;");
    }

    /** "the first token of which one is so" */
    private static void firstToken(Bench b) {
        inMethod(b, 2, "x=@;" + many("{", 41));
        inMethod(b, 3, many("{", 40) + "@{x=;");
        inMethod(b, 1, "x=@#;y=;");
        inMethod(b, 2, "x=@;#");
        inMethod(b, 2, "x y@;");
        inMethod(b, 1, "x @012;");
        inMethod(b, 1, "A @#;");
        inMethod(b, 1, "A[@#] b=1;");
        inMethod(b, 1, "a=(A@#)b;");
        inMethod(b, 1, "a=(A)@#b;");
        inMethod(b, 1, "while(true@#)");
        // what stands behind the first token that is so is never looked at
        b.fault(2, "@}" + many("#", 2999));
        b.fault(1, "class A{int y;int y;Q q;@#}");
        b.fault(2, "class A{int y;int y;Q q;@(}");
        // 1 to 3 anywhere ahead of all others
        b.fault(2, "class A extends A{int x;int x;}class A{@");
    }

    /** "of several 1, then 3, then 2" */
    private static void ofSeveral(Bench b) {
        inMethod(b, 1, many("{", 40) + "@#");
        inMethod(b, 1, many("{", 40) + "@00");
        inMethod(b, 1, many("{", 40) + "@abcdefghijklm");
        inMethod(b, 1, "x=" + many("(", 39) + "@2147483648;");
        inMethod(b, 1, "x=" + many("-", 38) + "@#");
        inMethod(b, 3, many("{", 40) + "@;");
        inMethod(b, 3, many("{", 40) + "@catch");
        inMethod(b, 3, "x=" + many("(", 39) + "@;");
        inMethod(b, 3, "x=" + many("(", 39) + "@)");
        // where no S or E is looked for, it is 2 however deep
        inMethod(b, 2, many("{", 39) + "if@{}");
        inMethod(b, 2, many("{", 39) + "break@}");
        inMethod(b, 2, "x=" + many("(", 38) + "1@;");
        inMethod(b, 2, "x=" + many("-", 38) + "@;");
        inMethod(b, 2, "x=" + many("-", 38) + "@+1;");
        b.fault(2, "class A{void m(){" + many("{", 40) + many("}", 42) + "@}");
    }
}
