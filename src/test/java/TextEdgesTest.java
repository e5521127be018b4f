/** Terms, 1. TEXTS, sentence by sentence: the last that is good, the first that isn't (promises 4 to 7). */
public final class TextEdgesTest {
    private static final String[] WORDS = {"max", "min", "set", "par", "var", "whole", "row", "sum", "in"};
    private static final String[] SIGNS = {"=", "..", ";", ",", "[", "]", "(", ")", "+", "-", "*", ":", "<=", ">="};

    private TextEdgesTest() {
    }

    private static void fine(String text) {
        Kit.fine(text);
    }

    private static void fault(int kind, String text) {
        Kit.faulty(kind, text);
    }

    private static String times(String text, int many) {
        return text.repeat(many);
    }

    public static void main(String[] args) {
        length();
        blanks();
        names();
        words();
        numbers();
        signs();
        told();
        goal();
        rows();
        factors();
        items();
        depth();
        end();
        firstOfAll();
        everyToken();
        fromTheLeft();
        thereAlready();
        sorts();
        asManyItems();
        setCounts();
        valueCounts();
        linear();
        range();
        greatTerms();
        greatSums();
        greatRows();
        muchTold();
        muchRows();
        muchFactors();
        leastAtOneName();
        behindWhatStandsInIt();
        variables();
        models();
        Kit.done();
    }

    private static void length() {
        Kit.says("at most 2,000 bytes; more than 2,000 bytes: 1 at 2000");
        Kit.due("2,000", Kit.telling("max 1;" + times(" ", 1994)), "0");
        Kit.due("2,001", Kit.telling("max 1;" + times(" ", 1995)), "1 at 2000");
        Kit.due("2,000 and a token in the last byte", Kit.telling("max 1" + times(" ", 1994) + ";"), "0");
        Kit.due("2,001 of which the first is none", Kit.telling("?" + times(" ", 2000)), "1 at 2000");
        Kit.due("2,000 of which the last is none", Kit.telling("max 1;" + times(" ", 1993) + "?"), "1 at 1999");
        Kit.due("2,000 bytes that lack the end", Kit.telling("max 1" + times(" ", 1995)), "1 at 2000");
        Kit.due("2,000 blanks", Kit.telling(times(" ", 2000)), "1 at 2000");
        Kit.due("2,000 bytes that end in a name", Kit.telling("max 1;" + times(" ", 1993) + "x"), "1 at 1999");
        Kit.due("2,000 bytes that end in a number", Kit.telling("max 1;" + times(" ", 1992) + "11"), "1 at 1998");
        Kit.due("30,000", Kit.telling("max 1;" + times(" ", 29994)), "1 at 2000");
        Kit.due("none", Kit.telling(""), "1 at 0");
    }

    private static void blanks() {
        Kit.says("between them blanks (32, 10)");
        for (int value = 0; value < 256; value++) {
            boolean good = value == 32 || value == 10;
            Kit.due("byte " + value + " behind max", Kit.telling("max" + (char) value + "(1);"),
                good || value == '-' ? "0" : value == '(' ? "1 at 7" : isNamePart(value) ? "1 at 0" : "1 at 3");
        }
        fine("max 1 ;");
        fine("  \n\n max \n  1;");
        fine("max 1;\n");
        fine("max 1; ");
    }

    private static boolean isNamePart(int value) {
        return value >= 'a' && value <= 'z' || value >= 'A' && value <= 'Z' || value >= '0' && value <= '9';
    }

    private static void names() {
        Kit.says("NAMES: a letter, then letters and digits, 8 at most in all");
        for (int value = 0; value < 256; value++) {
            boolean letter = isNamePart(value) && value > '9';
            String first = Kit.telling("var " + (char) value + ";max 1;");
            boolean blank = value == 32 || value == 10;
            Kit.due("a name of byte " + value, first, letter ? "0" : blank ? "1 at 5" : "1 at 4");
            String second = Kit.telling("var x" + (char) value + ";max 1;");
            Kit.due("a name x and byte " + value, second, isNamePart(value) || blank ? "0"
                : value == ';' ? "1 at 6" : value == '[' ? "1 at 6" : "1 at 5");
        }
        fine("var a;max a;");
        fine("var a1234567;max a1234567;");
        fine("var abcdefgh;max abcdefgh;");
        fault(1, "var ^abcdefghi;max 1;");
        fault(1, "var ^a12345678;max 1;");
        fault(1, "var ^" + times("a", 100) + ";max 1;");
        fine("var abcdefgh;var abcdefgi;max abcdefgh+abcdefgi;");
        fault(2, "var abcdefgh;max ^abcdefg;");
        fine("var x;var X;max x+X;");
    }

    private static void words() {
        Kit.says("WORDS, which are no names");
        for (String word : WORDS) {
            fault(1, "set ^" + word + "=1..1;max 1;");
            fault(1, "par ^" + word + "=1;max 1;");
            fault(1, "var ^" + word + ";max 1;");
            fault(1, "max 1;row ^" + word + ":1<=1;");
            fault(1, "set S=1..1;max sum ^" + word + " in S(1);");
            fault(1, "set S=1..1;max sum i in ^" + word + "(1);");
            fault(1, "set S=1..1;var x[S];max x[^" + word + "];");
            fault(1, "var y[^" + word + "];max 1;");
            if (!word.equals("sum")) {
                fault(1, "max ^" + word + ";");
            }
            String upper = word.substring(0, 1).toUpperCase() + word.substring(1);
            fine("var " + upper + ";var " + word + "1;var " + word + "x;max " + upper + "+" + word + "1+" + word + "x;");
        }
    }

    private static void numbers() {
        Kit.says("NUMBERS: digits, 5 at most, no letter right behind");
        fine("max 0;");
        fine("max 99999;");
        fine("max 00000;");
        fault(1, "max ^000000;");
        fault(1, "max ^100000;");
        fault(1, "max ^123456;");
        fault(1, "max ^" + times("9", 40) + ";");
        fault(1, "max ^4294967297;");
        fault(1, "max ^1a;");
        fault(1, "max ^1Z;");
        fault(1, "max ^99999a;");
        fault(1, "set S=^1in;max 1;");
        fault(1, "set S=1..2;max 1;row a[i in S]:^1i<=1;");
        fault(1, "max 1 ^a;");
        fine("set S=1..2;max 1;row a:1<=1;");
        fine("max 1;row a1:1<=1;");
        for (int value = '0'; value <= '9'; value++) {
            fine("max " + (char) value + ";");
        }
        fault(1, "max ^/;");
    }

    private static void signs() {
        Kit.says("SIGNS: = .. ; , [ ] ( ) + - * : <= >= , as long as can be");
        for (String sign : SIGNS) {
            String text = Kit.telling("max 1;row a:1" + sign + "1;");
            boolean relation = sign.equals("=") || sign.equals("<=") || sign.equals(">=");
            boolean operation = sign.equals("+") || sign.equals("-") || sign.equals("*");
            Kit.due("1 " + sign + " 1", text, relation ? "0" : operation ? "1 at 15" : "1 at 13");
        }
        fault(1, "set S=1^.2;max 1;");
        fine("set S=1..2;max 1;");
        fault(1, "set S=1^. .2;max 1;");
        fault(1, "set S=1..^.2;max 1;");
        fault(1, "set S=1..^..2;max 1;");
        fault(1, "max 1;row a:1^<1;");
        fault(1, "max 1;row a:1^>1;");
        fault(1, "max 1;row a:1^< =1;");
        fault(1, "max 1;row a:1^> =1;");
        fault(1, "max 1;row a:1=^<1;");
        fault(1, "max 1;row a:1=^>=1;");
        fault(1, "max 1;row a:1<=^=1;");
        fault(1, "max 1;row a:1^<>1;");
        fault(1, "max 1;row a:1^<");
        fault(1, "max 1^.");
    }

    private static void told() {
        Kit.says("TOLD: set NAME = NUMBER .. NUMBER ; or par NAME [INDEXES] = VALUE {, VALUE} ; "
            + "or var NAME [INDEXES] [whole] ;");
        fault(1, "set S=^;max 1;");
        fault(1, "set S=1^;max 1;");
        fault(1, "set S=1..^;max 1;");
        fault(1, "set S=1..^-2;max 1;");
        fault(1, "set S=1..2^,3;max 1;");
        fault(1, "set S^[S]=1..2;max 1;");
        fault(1, "set ^1=1..2;max 1;");
        fault(1, "par p^;max 1;");
        fault(1, "par p[^]=1;max 1;");
        fault(1, "par p=^;max 1;");
        fault(1, "par p=1 ^2;max 1;");
        fault(1, "par p=-^;max 1;");
        fault(1, "par p=-^-1;max 1;");
        fault(1, "par p=^+1;max 1;");
        fault(1, "par p=1,^;max 1;");
        fault(1, "par p=1^*2;max 1;");
        fault(1, "par p=^q;max 1;");
        fault(1, "par p=1 ^whole;max 1;");
        fine("par p=-1;max p;");
        fine("par p=-0;max p;");
        fault(1, "var x ^1;max 1;");
        fault(1, "var x whole ^whole;max 1;");
        fault(1, "var x ^,y;max 1;");
        fault(1, "set S=1..1;var x[S^");
        fault(1, "set S=1..1;var x[S,^];max 1;");
        fault(1, "set S=1..1;var x[S,S^,S];max 1;");
        fault(1, "set S=1..1;var x[S] ^[S];max 1;");
        fault(1, "set S=1..1;var x[^1];max 1;");
        fault(1, "set S=1..1;var x whole ^[S];max 1;");
        fine("set S=1..1;var x[S] whole;var y[S,S];par p[S]=1;par q[S,S]=2;max p[1]*x[1]+q[1,1]*y[1,1];");
    }

    private static void goal() {
        Kit.says("PROGRAM: {TOLD} GOAL {ROW}. GOAL: (max | min) E ;");
        fault(1, "var x;^");
        fault(1, "var x;^row a:x<=1;");
        fault(1, "^x;");
        fault(1, "max 1;^max 1;");
        fault(1, "max 1;^min 1;");
        fault(1, "max 1;^set S=1..1;");
        fault(1, "max 1;^par p=1;");
        fault(1, "max 1;^var x;");
        fault(1, "max 1;row a:1<=1;^var x;");
        fault(1, "max ^;");
        fault(1, "max 1^");
        fault(1, "max 1^,2;");
        fault(1, "max 1^<=2;");
        fault(1, "max 1;^;");
        fault(1, "max 1;^whole;");
        fine("min 1;");
        fine("var x;max 1;");
    }

    private static void rows() {
        Kit.says("ROW: row NAME [\"[\" NAME in NAME \"]\"] : E (<= | >= | =) E ;");
        String head = "set S=1..1;max 1;";
        fine(head + "row a:1<=1;");
        fine(head + "row a[i in S]:1>=1;");
        fault(1, head + "row ^1:1<=1;");
        fault(1, head + "row a^=1;");
        fault(1, head + "row a[^];");
        fault(1, head + "row a[i^]:1<=1;");
        fault(1, head + "row a[i ^S]:1<=1;");
        fault(1, head + "row a[i in ^]:1<=1;");
        fault(1, head + "row a[i in ^1]:1<=1;");
        fault(1, head + "row a[i in S^:1<=1;");
        fault(1, head + "row a[i in S^,j in S]:1<=1;");
        fault(1, head + "row a[i in S]^[j in S]:1<=1;");
        fault(1, head + "row a[i in S]^1<=1;");
        fault(1, head + "row a:^<=1;");
        fault(1, head + "row a:1^;");
        fault(1, head + "row a:1<=^;");
        fault(1, head + "row a:1<=1^<=1;");
        fault(1, head + "row a:1<=1^");
    }

    private static void factors() {
        Kit.says("E: T {(+ | -) T}. T: F {* F}. F: - F, NUMBER, ( E ), NAME [..], sum NAME in NAME ( E ).");
        String head = "set S=1..1;var x;max ";
        fault(1, head + "^+x;");
        fault(1, head + "x+^+x;");
        fine(head + "x+-x;");
        fine(head + "x--x;");
        fine(head + "x*-1;");
        fault(1, head + "x ^x;");
        fault(1, head + "2 ^x;");
        fault(1, head + "x ^2;");
        fault(1, head + "^*x;");
        fault(1, head + "x*^;");
        fault(1, head + "-^;");
        fault(1, head + "(^);");
        fault(1, head + "(x^;");
        fault(1, head + "x^);");
        fault(1, head + "(x)^(x);");
        fault(1, head + "sum ^(1);");
        fault(1, head + "sum i ^(1);");
        fault(1, head + "sum i in S ^1;");
        fault(1, head + "sum i in S(^);");
        fault(1, head + "sum i in S(1^;");
        fault(1, head + "sum i in S(1) ^1;");
        fault(1, head + "sum ^[i] in S(1);");
        fine(head + "sum i in S(1)*sum j in S(1);");
        fault(1, head + "^[1];");
    }

    private static void items() {
        Kit.says("NAME [\"[\" I [, I] \"]\"]; I: NUMBER, or NAME [(+ | -) NUMBER]");
        String head = "set S=1..1;var x[S];var y[S,S];max ";
        fault(1, head + "x[^];");
        fault(1, head + "x[1^;");
        fault(1, head + "x[^-1];");
        fault(1, head + "x[1^+0];");
        fault(1, head + "x[^(1)];");
        fault(1, head + "sum i in S(x[i+^i]);");
        fault(1, head + "sum i in S(x[i+^-0]);");
        fault(1, head + "sum i in S(x[i+^]);");
        fault(1, head + "sum i in S(x[i+0^+0]);");
        fault(1, head + "sum i in S(x[i^*1]);");
        fault(1, head + "y[1,^];");
        fault(1, head + "y[^,1];");
        fault(1, head + "y[1,1^,1];");
        fault(1, head + "y[1]^[1];");
        fine(head + "sum i in S(x[i]+x[i+0]+x[i-0]+y[1,i]+y[i,1]+y[i-0,i+0]);");
    }

    private static void depth() {
        Kit.says("also (at it) the F that stands within 30 others (- , ( and sum have one in them)");
        fine("max " + times("-", 29) + "1;");
        fault(1, "max " + times("-", 30) + "^1;");
        fine("max " + times("(", 29) + "1" + times(")", 29) + ";");
        fault(1, "max " + times("(", 30) + "^1" + times(")", 30) + ";");
        fault(1, "max " + times("(", 30) + "^(1" + times(")", 31) + ";");
        fine("max " + times("(", 29) + "1*1+1" + times(")", 29) + ";");
        fault(1, "max " + times("(", 29) + "1*1+-^1" + times(")", 29) + ";");
        fault(1, "max " + times("(", 29) + "1*-^1" + times(")", 29) + ";");
        StringBuilder sums = new StringBuilder("set S=1..1;max ");
        for (int i = 0; i < 29; i++) {
            sums.append("sum i" + i + " in S(");
        }
        fine(sums + "1" + times(")", 29) + ";");
        fault(1, sums + "-^1" + times(")", 29) + ";");
        fault(1, sums + "(^1)" + times(")", 29) + ";");
        fault(1, sums + "sum j in S(^1)" + times(")", 29) + ";");
        // Those beside it count for nothing: after 29 deep ones there is room for 29 again.
        fine("max " + times("(", 29) + "1" + times(")", 29) + "*" + times("-", 29) + "1;");
        fine("max 1;row a:" + times("-", 29) + "1<=" + times("-", 29) + "1;");
        fault(1, "max 1;row a:" + times("-", 30) + "^1<=1;");
        fault(1, "max 1;row a:1<=" + times("-", 30) + "^1;");
        // It comes in its turn among those of FAULT 1, and ahead of all others.
        fault(1, "max x+" + times("-", 30) + "^1+?;");
        fault(1, "max ^?+" + times("-", 30) + "1;");
        fault(1, "max " + times("(", 30) + "^-1" + times(")", 30) + ";");
        fault(1, "max x+" + times("(", 30) + "^1" + times(")", 30) + ";");
        fault(1, sums.toString().replace("max ", "max x+") + "(^1)" + times(")", 29) + ";");
        fault(1, sums.toString().replace("max ", "max x+") + "sum j in S(^1)" + times(")", 29) + ";");
    }

    private static void end() {
        Kit.says("FAULTS, with the PLACE of a token's first byte (of the text's end: its length)");
        fault(1, "^");
        fault(1, " ^");
        fault(1, "max 1^");
        fault(1, "max 1  \n^");
        fault(1, "max^");
        fault(1, "max 1;row^");
        fault(1, "max 1;row a:1<=1^");
        fault(2, "max   ^abcdefgh   ;");
        fault(6, "max 99999^*\n99999;");
        fault(6, "max 1;row a:99999 ^>= -1;");
    }

    private static void firstOfAll() {
        Kit.says("First of all 1: the first token that is none or can't stand there. Without one, the first that is met");
        fault(1, "max x;row a:1<=1^");
        fault(1, "set S=2..1;max 1;^?");
        fault(1, "var x;max x*x;row a:99999+1<=^;");
        fault(1, "max ^?;?");
        fault(1, "max ^);?");
        fault(2, "max ^x;row a:1<=1;");
    }

    private static final String ALL_SORTS = "set S = 1 .. 2 ; par p [ S ] = 1 , - 2 ; par q [ S , S ] = 1 , 2 , 3 , 4 ; "
        + "var x [ S , S ] whole ; var y ; max sum i in S ( p [ i ] * x [ i , 2 ] ) - y ; "
        + "row a [ i in S ] : x [ i - 0 , 1 ] <= ( 3 + i ) * q [ 1 , i ] ; row b : - y >= 2 ; row c : y = x [ 1 , 1 ] ;";

    /** Each token in the place of each other one, ahead of it, or away: as the second reading of the document has it. */
    private static void everyToken() {
        Kit.says("the first token that is none or can't stand there");
        fine(ALL_SORTS);
        String[] tokens = ALL_SORTS.split(" ");
        String[] more = {"n", "S", "p", "x", "y", "i", "a", "0", "7", "99999", "?"};
        OptimumHouse house = new OptimumHouse();
        for (int i = 0; i < tokens.length; i++) {
            String ahead = String.join(" ", java.util.Arrays.copyOf(tokens, i)) + " ";
            String behind = " " + String.join(" ", java.util.Arrays.copyOfRange(tokens, i + 1, tokens.length));
            same(house, ahead + behind);
            same(house, ahead);
            for (String[] sort : new String[][] {WORDS, SIGNS, more}) {
                for (String token : sort) {
                    same(house, ahead + token + behind);
                    same(house, ahead + token + " " + tokens[i] + behind);
                }
            }
        }
    }

    private static void same(OptimumHouse house, String text) {
        Kit.due("tell of " + text, Kit.telling(house, text), ReferenceTell.tell(text));
    }

    private static void fromTheLeft() {
        Kit.says("what a sum or a ROW with an index tells is looked at for each index in turn; of two parts the left one "
            + "ahead, then what is between; of TOLD: its NAME, then INDEXES, then values");
        String head = "set S=1..3;par p[S]=1,2,50000;var x[S];";
        fault(5, head + "max sum i in S(^x[i+1]+p[i]*3);");
        fault(6, head + "max sum i in S(p[i]^*3+x[i+1]);");
        fault(5, head + "max sum i in S(p[i]*3+^x[i-1]);");
        fault(6, head + "max 1;row a[i in S]:p[i]^*3<=x[i+1];");
        fault(5, head + "max 1;row a[i in S]:p[i]*3<=^x[i-1];");
        fault(5, head + "max 1;row a[i in S]:^x[i+1]<=p[i]*3;");
        fault(2, head + "max ^y*z;");
        fault(2, head + "max x[1]*^z;");
        fault(4, head + "max x[1]^*x[2]+z;");
        fault(4, head + "max x[1]^*x[2]*z;");
        fault(6, head + "max 99999^+1+z;");
        fault(2, head + "max 99999+^z;");
        fault(2, head + "max 1;row a:99999<=^z-1;");
        fault(6, head + "max 1;row a:99999^<=-1;row b:z<=1;");
        fault(2, "var x;par ^x[T]=1,2;max y;");
        fault(2, "par p[^T,U]=1,2;max y;");
        fault(2, "set T=1..2;par p[T,^U]=1,2;max y;");
        fault(3, "set T=1..2;par ^p[T]=1;max y;");
    }

    private static void thereAlready() {
        Kit.says("2 NAME: one that is told (set, par, var, row, an index that is in sight; an index too, which may be told "
            + "again when it is out of sight) and is there already");
        String[] sorts = {"set n=1..1;", "par n=1;", "var n;"};
        String[] again = {"set ^n=1..1;", "par ^n=1;", "var ^n;"};
        for (String told : sorts) {
            for (String second : again) {
                fault(2, told + second + "max 1;");
            }
            fault(2, told + "max 1;row ^n:1<=1;");
            fault(2, told + "set S=1..1;max sum ^n in S(1);");
            fault(2, told + "set S=1..1;max 1;row a[^n in S]:1<=1;");
        }
        String head = "set S=1..2;max ";
        fault(2, head + "1;row a:1<=1;row ^a:1<=1;");
        fault(2, head + "1;row a:1<=1;row b[^a in S]:1<=1;");
        fault(2, head + "1;row a[^a in S]:1<=1;");
        fault(2, head + "1;row a:sum ^a in S(1)<=1;");
        fault(2, head + "1;row a:1<=1;row b:sum ^a in S(1)<=1;");
        fault(2, head + "1;row a[i in S]:sum ^i in S(1)<=1;");
        fault(2, head + "1;row a[i in S]:1<=sum ^i in S(1);");
        fault(2, head + "sum i in S(sum ^i in S(1));");
        fault(2, head + "sum i in S(1+sum j in S(sum ^i in S(1)));");
        fine(head + "sum i in S(i)+sum i in S(i);");
        fine(head + "sum i in S(sum j in S(1)+sum j in S(1));");
        fine(head + "sum i in S(i);row i:1<=1;");
        fine(head + "sum i in S(i);row a[i in S]:1<=2;row b[i in S]:1<=sum j in S(1);row j:1<=1;");
        fine(head + "1;row a[i in S]:1<=1;row i:1<=1;");
    }

    private static void sorts() {
        Kit.says("2: one that isn't, or is of another sort than it must be: behind in and in INDEXES a set; in I an index in "
            + "sight; a F's NAME a par or var, or an index in sight without [ ]");
        String told = "set S=1..1;par p=1;var v;";
        String[] noSets = {"p", "v", "n"};
        for (String name : noSets) {
            fault(2, told + "par q[^" + name + "]=1;max 1;");
            fault(2, told + "par q[S,^" + name + "]=1;max 1;");
            fault(2, told + "var w[^" + name + "];max 1;");
            fault(2, told + "max sum i in ^" + name + "(1);");
            fault(2, told + "max 1;row a[i in ^" + name + "]:1<=1;");
        }
        fault(2, told + "par q[^q]=1;max 1;");
        fault(2, told + "max sum i in ^i(1);");
        fault(2, told + "max sum i in S(sum j in ^i(1));");
        fault(2, told + "max 1;row a[i in ^a]:1<=1;");
        fault(2, told + "max 1;row a:1<=1;row b:sum i in ^a(1)<=1;");
        told = "set S=1..1;par p=1;var v;var x[S];";
        String[] noIndexes = {"S", "p", "v", "x", "n"};
        for (String name : noIndexes) {
            fault(2, told + "max x[^" + name + "];");
            fault(2, told + "max x[^" + name + "+0];");
        }
        fault(2, told + "max sum i in S(x[i])+x[^i];");
        fault(2, told + "max 1;row a[i in S]:x[i]<=1;row b:x[^i]<=1;");
        fault(2, told + "max 1;row a:x[^a]<=1;");
        fine(told + "max p+v+x[1]+sum i in S(i+p+v+x[i]);");
        fault(2, told + "max ^S;");
        fault(2, told + "max ^n;");
        fault(2, told + "max 1;row a:^a<=1;");
        fault(2, told + "max 1;row a:1<=1;row b:^a<=1;");
        fault(2, told + "max sum i in S(i)+^i;");
        fault(2, told + "max sum i in S(^i[1]);");
        fault(2, told + "max sum i in S(^i[n]);");
        fault(2, told + "max 1;row a[i in S]:^i[1]<=1;");
        fault(2, told + "max ^S[1];");
    }

    private static void asManyItems() {
        Kit.says("2: with as many I as it has INDEXES (at the NAME)");
        String head = "set S=1..1;par p0=1;par p1[S]=1;par p2[S,S]=1;var v0;var v1[S];var v2[S,S];max ";
        String[] given = {"", "[1]", "[1,1]"};
        for (int has = 0; has <= 2; has++) {
            for (int i = 0; i <= 2; i++) {
                if (i == has) {
                    fine(head + "p" + has + given[i] + "+v" + has + given[i] + ";");
                } else {
                    fault(2, head + "^p" + has + given[i] + ";");
                    fault(2, head + "1+^v" + has + given[i] + ";");
                }
            }
        }
    }

    private static void setCounts() {
        Kit.says("3 COUNT, at the NAME: a set whose first number is above its second, or with more than 12");
        fine("set S=1..1;max 1;");
        fault(3, "set ^S=1..0;max 1;");
        fault(3, "set ^S=99999..0;max 1;");
        fine("set S=0..11;max 1;");
        fault(3, "set ^S=0..12;max 1;");
        fine("set S=99988..99999;max 1;");
        fault(3, "set ^S=99987..99999;max 1;");
        fault(3, "set ^S=0..99999;max 1;");
        fine("set S=0..0;par p[S]=1;max p[0];");
    }

    private static void valueCounts() {
        Kit.says("3: a par with another number of VALUES than its INDEXES ask (those of the second one go faster)");
        fine("par p=1;max p;");
        fault(3, "par ^p=1,2;max p;");
        fine("set S=1..3;par p[S]=1,2,3;max 1;");
        fault(3, "set S=1..3;par ^p[S]=1,2;max 1;");
        fault(3, "set S=1..3;par ^p[S]=1,2,3,4;max 1;");
        fault(3, "set S=1..3;set T=1..2;par ^p[S,T]=1,2,3,4,5;max 1;");
        fault(3, "set S=1..3;set T=1..2;par ^p[S,T]=1,2,3,4,5,6,7;max 1;");
        String full = "set S=1..12;par p[S,S]=" + times("1,", 143) + "-7";
        fine(full + ";max p[12,12];");
        Kit.due("the last of 144", Kit.house(full + ";max p[12,12];").coefficient(0, 0), -7);
        fault(3, "set S=1..12;par ^p[S,S]=" + times("1,", 142) + "1;max 1;");
        fault(3, "set S=1..12;par ^p[S,S]=" + times("1,", 144) + "1;max 1;");
        OptimumHouse house = Kit.house("set S=1..3;set T=4..5;par p[S,T]=1,2,3,4,5,6;var x;"
            + "max p[1,4];row a:x<=p[1,5];row b:x<=p[2,4];row c:x<=p[3,5];");
        Kit.due("1, 4", house.coefficient(0, 0), 1);
        Kit.due("1, 5", house.coefficient(1, 0), 2);
        Kit.due("2, 4", house.coefficient(2, 0), 3);
        Kit.due("3, 5", house.coefficient(3, 0), 6);
    }

    private static void linear() {
        Kit.says("4 LINEAR: T's product when what is ahead of * and what is behind both have a coefficient that isn't 0 "
            + "(at the *)");
        String head = "var x;var y;max ";
        fault(4, head + "x^*x;");
        fault(4, head + "x^*y;");
        fault(4, head + "2*x*3^*y;");
        fault(4, head + "(x+1)^*(y+1);");
        fault(4, head + "-x^*-y;");
        fine(head + "x*0*y;");
        fine(head + "0*x*y;");
        fine(head + "(x-x)*y;");
        fine(head + "y*(x-x);");
        fine(head + "x*2*3;");
        fault(4, head + "x^*y*0;");
        fault(4, head + "x*99999^*y;");
        // At one * it comes ahead of 6.
        fault(4, head + "99999*x^*(99999*y);");
    }

    private static void range() {
        Kit.says("5 RANGE, at the NAME: an I that isn't in the set of its place");
        String head = "set S=3..5;set T=8..9;par p[S]=1,2,3;var x[S,T];max ";
        fault(5, head + "^p[2];");
        fine(head + "p[3]+p[5];");
        fault(5, head + "^p[6];");
        fault(5, head + "^p[0];");
        fault(5, head + "^p[99999];");
        fault(5, head + "^x[2,8];");
        fault(5, head + "^x[6,8];");
        fault(5, head + "^x[3,7];");
        fault(5, head + "^x[3,10];");
        fault(5, head + "^x[8,3];");
        fine(head + "x[3,8]+x[3,9]+x[5,8]+x[5,9];");
        fine(head + "sum i in S(p[i]);");
        fine(head + "sum i in T(p[i-5]+p[i-4]);");
        fault(5, head + "sum i in T(p[i-4]+^p[i-6]);");
        fault(5, head + "sum i in T(p[i-5]+^p[i-3]);");
        fault(5, head + "sum i in S(x[i,8]+^x[i,i+3]);");
        fault(5, head + "sum i in S(^x[i,i+5]);");
        fault(5, head + "sum i in S(^p[i-99999]);");
        fault(5, head + "sum i in S(^p[i+99999]);");
        fault(5, "set S=0..1;par p[S]=1,2;max sum i in S(^p[i-1]);");
    }

    private static void greatTerms() {
        Kit.says("6 GREAT: a coefficient, or the number without variable, beyond 99,999 either way: of T (at the *)");
        fine("max 99999*1;");
        fine("max -1*99999;");
        fine("max 271*369;");
        fault(6, "max 250^*400;");
        fault(6, "max -250^*400;");
        fault(6, "max 99999^*99999;");
        fault(6, "max 2^*50000*0;");
        fine("max 0*50000*2;");
        fine("var x;max 99999*x;");
        fine("var x;max -99999*x;");
        fault(6, "var x;max 50000*x^*2;");
        fault(6, "var x;max 2^*(-50000*x);");
        fault(6, "var x;max (x-50000)^*2;");
        fault(6, "var x;max 2^*(x-50000);");
        fault(6, "var x;max 10*10*10*10*9*(x+1)^*2;");
        fault(6, "set S=1..12;var x[S];max 1+(x[1]+50000*x[12])^*2;");
    }

    private static void greatSums() {
        Kit.says("6 GREAT: of E, as it comes (at the sign behind which it came); of F (at F's first token)");
        fine("max 99998+1;");
        fault(6, "max 99999^+1;");
        fine("max -99998-1;");
        fault(6, "max -99999^-1;");
        fault(6, "max 0-99999^-1+1;");
        fault(6, "max 99999^+1-1;");
        fine("max 99999-1+1;");
        fault(6, "max 1-(99999^+1);");
        fine("var x;max 99998*x+x;");
        fault(6, "var x;max 99999*x^+x;");
        fault(6, "var x;max -99999*x^-x;");
        fault(6, "var x;max 1-99999*x^-x+x;");
        fine("set S=1..9;max sum i in S(11111);");
        fault(6, "set S=1..10;max ^sum i in S(10000);");
        fine("set S=1..10;max sum i in S(-9999);");
        fault(6, "set S=1..10;max ^sum i in S(-10000);");
        fault(6, "set S=1..10;var x;max ^sum i in S(10000*x);");
        fine("set S=1..9;var x;max sum i in S(11111*x);");
        fault(6, "set S=1..2;par p[S]=99999,1;max 5*-^sum i in S(p[i]);");
        // As it comes: what the third index would take away again is too late.
        fault(6, "set S=1..3;par p[S]=99999,1,-1;max ^sum i in S(p[i]);");
        fine("set S=1..3;par p[S]=99999,-1,1;max sum i in S(p[i]);");
    }

    private static void greatRows() {
        Kit.says("6 GREAT: of a ROW's left side less its right one (at <= >= =)");
        String[] relations = {"<=", ">=", "="};
        for (String relation : relations) {
            fine("max 1;row a:99998" + relation + "-1;");
            fault(6, "max 1;row a:99999^" + relation + "-1;");
            fault(6, "max 1;row a:-1^" + relation + "99999;");
            fine("var x;max 1;row a:99998*x" + relation + "-x;");
            fault(6, "var x;max 1;row a:99999*x^" + relation + "-x;");
            fault(6, "var x;max 1;row a:-x^" + relation + "99999*x;");
            fine("var x;max 1;row a:99999*x-99999" + relation + "99999*x-99999;");
        }
        fault(6, "set S=1..3;var x;max 1;row a[i in S]:99997*x^<=-i*x;");
        fine("set S=1..2;var x;max 1;row a[i in S]:99997*x<=-i*x;");
    }

    private static void muchTold() {
        Kit.says("7 MUCH, at the NAME: a 9th set, 13th par, a var with which there are more than 12 variables");
        StringBuilder sets = new StringBuilder();
        for (int i = 1; i <= 8; i++) {
            sets.append("set S" + i + "=" + i + ".." + i + ";");
        }
        fine(sets + "max sum i in S8(i);");
        fault(7, sets + "set ^T=1..1;max 1;");
        StringBuilder pars = new StringBuilder();
        for (int i = 1; i <= 12; i++) {
            pars.append("par p" + i + "=" + i + ";");
        }
        fine(pars + "max p12;");
        fault(7, pars + "par ^q=1;max 1;");
        String grid = "set S=1..12;set T=1..3;set U=1..4;";
        fine(grid + "var x[S];max 1;");
        fine(grid + "var x[T,U];max 1;");
        fault(7, grid + "var x[S];var ^y;max 1;");
        fault(7, grid + "var ^x[S,T];max 1;");
        fault(7, grid + "var y;var ^x[T,U];max 1;");
        fault(7, grid + "var y;var ^x[S] whole;max 1;");
        fine(grid + "var x[T,T];var y[T];max 1;");
        fault(7, grid + "var x[T,T];var ^y[U];max 1;");
        fault(7, "set S=1..12;var ^x[S,S];max 1;");
        StringBuilder vars = new StringBuilder();
        for (int i = 1; i <= 12; i++) {
            vars.append("var v" + i + ";");
        }
        fine(vars + "max v12;");
        fault(7, vars + "var ^w;max 1;");
    }

    private static void muchRows() {
        Kit.says("7 MUCH, at the NAME: a ROW (each index of it) with which there are more than 16 rows (one with = is two)");
        StringBuilder rows = new StringBuilder("set S=1..12;max 1;");
        for (int i = 1; i <= 15; i++) {
            rows.append("row r" + i + ":1<=1;");
        }
        fine(rows.toString());
        fine(rows + "row s:1<=1;");
        fine(rows + "row s:1>=1;");
        fault(7, rows + "row ^s:1=1;");
        fault(7, rows + "row s:1<=1;row ^t:1<=1;");
        fault(7, rows + "row s:1<=1;row ^t:1>=1;");
        fault(7, rows + "row ^s[i in S]:1<=1;");
        String half = "set S=1..8;set T=1..9;set U=1..4;max 1;";
        fine(half + "row a[i in S]:1=1;");
        fault(7, half + "row ^a[i in T]:1=1;");
        fine(half + "row a[i in S]:1<=1;row b[i in S]:1>=1;");
        fault(7, half + "row a[i in S]:1<=1;row ^b[i in T]:1>=1;");
        fine(half + "row a[i in S]:1<=1;row b[i in U]:1=1;");
        fault(7, half + "row a[i in T]:1<=1;row ^b[i in U]:1=1;");
        fault(7, half + "row a[i in S]:1=1;row ^b:1<=1;");
    }

    private static void muchFactors() {
        Kit.says("7 MUCH, at it, the 20,001st F that is looked at");
        // 1 + 12 + 144 sums, 1,728 times 11 numbers: 19,165. Then 1 + 12 * 69 and six: 20,000.
        String head = "set S=1..12;var x;max sum i in S(sum j in S(sum k in S(0" + times("*0", 10) + ")))"
            + "+sum i in S(0" + times("*0", 68) + ")+0+0+0+0+0+0";
        fine(head + ";");
        fault(7, head + "+^0;");
        fault(7, head + "+^-0;");
        fault(7, head + "+^(0);");
        fault(7, head + "+^x;");
        fault(7, head + "+^sum i in S(0);");
        fault(7, head + ";row a:^0<=0;");
        fault(7, head + ";row a[i in S]:^i<=0;");
        head = head.substring(0, head.length() - 2);
        fine(head + "+x;");
        fine(head + ";");
        fault(7, head + ";row a:0<=^0;");
        fault(7, head + "+-^0;");
        fault(7, head + "+(^0);");
        fault(7, head + "+sum i in S(^0);");
        fault(7, head + "+0*^0;");
        // The I's of a NAME are none.
        fine("set T=0..0;var y[T];" + head.replace("var x;", "") + "+y[0];");
    }

    private static void leastAtOneName() {
        Kit.says("at one NAME the least");
        StringBuilder sets = new StringBuilder();
        StringBuilder pars = new StringBuilder();
        for (int i = 1; i <= 8; i++) {
            sets.append("set S" + i + "=1..2;");
        }
        for (int i = 1; i <= 12; i++) {
            pars.append("par p" + i + "=1;");
        }
        fault(2, "set S=1..1;set ^S=2..1;max 1;");
        fault(2, sets + "set ^S1=1..1;max 1;");
        fault(2, sets + "set ^S1=2..1;max 1;");
        fault(3, sets + "set ^T=2..1;max 1;");
        fault(2, "par p=1;par ^p=1,2;max 1;");
        fault(2, pars + "par ^p1=1;max 1;");
        fault(3, pars + "par ^q=1,2;max 1;");
        fault(2, sets + "var x;var ^x[S1];max 1;");
        fault(2, "set S=1..12;var x[S];var ^x;max 1;");
        fault(2, "set S=3..4;var x[S];max ^x[1,1];");
        fault(2, "set S=1..9;max 1;row a:1=1;row ^a[i in S]:1=1;");
    }

    private static void behindWhatStandsInIt() {
        Kit.says("as many I, 3, 5, and 7 of TOLD and of a ROW, are looked at behind what stands in it");
        fault(2, "var x;max x[^i];");
        fault(2, "set S=1..2;var x[S];max x[9,^i];");
        fault(2, "set S=1..2;var x[S,S];max x[9,^i];");
        fault(2, "set S=1..2;var x[S,S];max x[^i];");
        StringBuilder pars = new StringBuilder();
        for (int i = 1; i <= 12; i++) {
            pars.append("par p" + i + "=1;");
        }
        fault(2, pars + "par q[^T]=1;max 1;");
        fault(2, "par q[^T]=1,2;max 1;");
        fault(2, "set S=1..12;var x[S];var y[^T];max 1;");
        String rows = "set S=1..8;set T=1..3;par p[T]=1,2,3;max 1;row a[i in S]:1=1;";
        fault(7, rows + "row ^b:1<=1;");
        fault(2, rows + "row b:^y<=1;");
        fault(2, rows + "row b:1<=^y;");
        fault(6, rows + "row b:99999^<=-1;");
        fault(5, rows + "row b:^p[4]<=1;");
        fault(2, rows + "row b[i in ^U]:1<=1;");
        fault(7, rows + "row ^b[i in T]:p[i+1]<=1;");
    }

    private static void variables() {
        Kit.says("VARIABLES 1 .. n in their order (of INDEXES the second one faster); those of a var that is whole are WHOLE");
        OptimumHouse house = Kit.house("set S=1..2;set T=5..7;var a;var x[S,T]whole;var b[T];var c whole;"
            + "max 1*a+11*x[1,5]+12*x[1,6]+13*x[1,7]+21*x[2,5]+22*x[2,6]+23*x[2,7]+31*b[5]+32*b[6]+33*b[7]+4*c;");
        long[] due = {0, 1, 11, 12, 13, 21, 22, 23, 31, 32, 33, 4};
        for (int j = 0; j < due.length; j++) {
            Kit.due("variable " + j, house.coefficient(0, j), due[j]);
        }
        Kit.due("n", house.size(0), 11);
        Kit.due("WHOLE", house.size(2), 7);
        Kit.due("12 WHOLE", Kit.house("set S=1..12;var x[S]whole;max 1;").size(2), 12);
    }

    private static void models() {
        Kit.says("of <= the left side less the right one's, the number to the right; of >= all signs turned; = gives that of "
            + "<= , then that of >= ; of min with all signs turned");
        OptimumHouse house = Kit.house("set S=1..2;var x;var y;min 7-2*x+3*y;row a:5*x+1<=2*x+y+9;row b:5*x+1>=2*x+y+9;"
            + "row c[i in S]:i*x+y=i+2;");
        long[][] due = {{-7, 2, -3}, {8, 3, -1}, {-8, -3, 1}, {3, 1, 1}, {-3, -1, -1}, {4, 2, 1}, {-4, -2, -1}};
        for (int k = 0; k < due.length; k++) {
            for (int j = 0; j < due[k].length; j++) {
                Kit.due("row " + k + ", " + j, house.coefficient(k, j), due[k][j]);
            }
        }
        Kit.due("m", house.size(1), 6);
        house = Kit.house("var x;max 7-2*x;");
        Kit.due("c0 of max", house.coefficient(0, 0), 7);
        Kit.due("c of max", house.coefficient(0, 1), -2);
        house = Kit.house("var x;max 99999-99999*x;row a:99999*x>=99999;");
        Kit.due("the most", house.coefficient(0, 0), 99999);
        Kit.due("the least", house.coefficient(0, 1), -99999);
        Kit.due("the least bound", house.coefficient(1, 0), -99999);
    }
}
