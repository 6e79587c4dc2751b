/** Promises 4 and 5 with texts as full as 3,000 bytes can be: no row is too short for what a text may hold. */
public final class RoomTest {
    private static final int TEXT_MOST = 3000;
    private static final String LETTERS = "abcdefghijklmnopqrstuvwxyzABCDEFGHIJKLMNOPQRSTUVWXYZ";

    public static void main(String[] args) {
        Bench b = new Bench("RoomTest");
        manyInSight(b);
        manyClasses(b);
        manyNames(b);
        manyBreaks(b);
        manySigns(b);
        manyArguments(b);
        longKinds(b);
        b.end();
    }

    /** The names of one letter, then those of two, but for K, which is the class, and the WORD if. */
    private static String nameOf(int i) {
        int number = 0;
        for (int n = 0; n < LETTERS.length() * (LETTERS.length() + 1); n++) {
            int ahead = n / LETTERS.length();
            String last = LETTERS.substring(n % LETTERS.length(), n % LETTERS.length() + 1);
            String name = ahead == 0 ? last : LETTERS.substring(ahead - 1, ahead) + last;
            if (!name.equals("K") && !name.equals("if")) {
                if (number == i) {
                    return name;
                }
                number++;
            }
        }
        return "none";
    }

    /** Six parameters and then as many variables as there is room for, with so many bytes left behind them. */
    private static String sight(int left) {
        StringBuilder row = new StringBuilder("class K{void f(K a,K b,K c,K d,K e,K f){");
        for (int i = 6; row.length() + 7 <= TEXT_MOST - left; i++) {
            row.append("K ").append(nameOf(i)).append("=a;");
        }
        return row.toString();
    }

    private static String lastIn(String sight) {
        int sign = sight.lastIndexOf('=');
        return sight.substring(sight.lastIndexOf(' ', sign) + 1, sign);
    }

    private static void manyInSight(Bench b) {
        String nine = sight(9);
        String last = lastIn(nine);
        b.fault(4, nine + "K @" + last + "=a;}}");
        b.fault(4, nine + "K @" + nameOf(300) + "=b;}}");
        b.fault(4, nine + "K @a=" + last + ";}}");
        b.fault(11, nine.replace(" f(", " @f(") + "K zz=a;}}");
        String longer = sight(30);
        String there = lastIn(longer);
        b.fault(11, longer.replace(" f(", " @f(") + there + "=" + there + ";}}");
        b.fault(6, longer + "int zz@=" + there + ";}}");
        b.fault(6, longer + there + "@=1;}}");
        b.fault(6, longer + "@" + there + ";}}");
        b.fault(5, longer + "K zz=@zY;}}");
        b.fault(5, longer + there + ".@h();}}");
        b.fault(4, longer + "try{}catch(Fault @" + there + "){}}}");
        b.fault(4, longer + "{K @" + there + "=a;}}}");
        b.fault(4, longer + "if(true)K @" + there + "=a;}}");
        b.fault(5, longer + "{K zz=a;}@zz=a;}}");
    }

    private static void manyClasses(Bench b) {
        StringBuilder row = new StringBuilder();
        for (int i = 0; row.length() + 10 <= TEXT_MOST; i++) {
            row.append("class ").append(nameOf(i)).append("{}");
        }
        String text = row.toString();
        int ninth = text.indexOf("class " + nameOf(8) + "{}") + 6;
        b.fault(11, text.substring(0, ninth) + "@" + text.substring(ninth));
        b.fault(4, "class a{}class @a{}" + "class a{}".repeat(331));
        b.fault(2, "class a{}".repeat(332) + "class a@");
    }

    private static void manyNames(Bench b) {
        StringBuilder row = new StringBuilder("class K{void f(){");
        for (int i = 0; row.length() + 3 <= TEXT_MOST - 34; i++) {
            row.append(nameOf(i)).append("+");
        }
        String text = row.toString();
        b.fault(4, text + "K;}}class Zzz{}class @Zzz{}");
        b.fault(5, text.replace("{a+", "{@a+") + "K;}}");
        StringBuilder fields = new StringBuilder("class K{int zz;void f(){zz=zz");
        for (int i = 0; fields.length() + 5 <= TEXT_MOST - 20; i++) {
            fields.append("+f.").append(nameOf(i));
        }
        b.fault(5, fields.toString().replace("zz+f.a+", "zz+@f.a+") + ";}}");
    }

    private static void manyBreaks(Bench b) {
        int many = (TEXT_MOST - 60) / 11;
        String breaks = "if(a)break;".repeat(many);
        b.fault(11, "class K{void @f(boolean a){while(true){" + breaks + "}}}");
        b.fault(6, "class K{void f(boolean a){while(true){" + breaks + "}@1;}}");
        b.fault(9, "class K{void f(boolean a){while(true){" + breaks + "return;@f(a);}}}");
    }

    /** In each of forty E's as many signs wait as there are levels. */
    private static void manySigns(Bench b) {
        String all = "a||a&&a|a^a&a==1<1<<1+1*";
        String open = (all + "g(").repeat(38);
        String close = ")".repeat(38) + ";}int g(boolean b){return 1;}}";
        b.fault(11, "class K{void @f(boolean a){a=" + open + "true" + close);
        b.fault(6, "class K{void f(boolean a){a=" + open + "null@+1" + close);
    }

    private static void manyArguments(Bench b) {
        String given = "1,".repeat(1400);
        b.fault(6, "class K{void f(int a){@f(" + given + "1);}}");
        b.fault(5, "class K{void f(int a){f(" + given + "@b);}}");
        b.fault(6, "class K{void f(int a){f(" + given + "@g()==null);}void g(){}}");
    }

    /** Classes with names as long as can be, and methods with six parameters of them. */
    private static void longKinds(Bench b) {
        String longest = "Abcdefghijk";
        StringBuilder row = new StringBuilder();
        for (int k = 0; k < 8; k++) {
            row.append("class ").append(longest).append(k).append("{");
            for (int m = 0; m < 3; m++) {
                row.append("void m").append(m).append("(");
                for (int p = 0; p < 6; p++) {
                    row.append(p == 0 ? "" : ",").append(longest).append((k + p * (m + 1)) % 8);
                    row.append("[]").append((char) ('a' + p));
                }
                row.append("){}");
            }
            row.append("}");
        }
        b.due("the length of the text", row.length() <= TEXT_MOST, true);
        b.right(row.toString(), 8);
    }
}
