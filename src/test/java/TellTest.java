/** Promises 4 and 5: tell and fault, each FAULT with its PLACE and its edges. */
public final class TellTest {
    private TellTest() {
    }

    private static void fault(int kind, String text) {
        Kit.faulty(kind, text);
    }

    private static void fine(String text) {
        Kit.fine(text);
    }

    private static String times(String text, int many) {
        return text.repeat(many);
    }

    public static void main(String[] args) {
        tokens();
        grammar();
        depth();
        names();
        counts();
        linear();
        ranges();
        great();
        much();
        order();
        keeps();
        latest();
        Kit.done();
    }

    private static void tokens() {
        fine("max 1;");
        fine("\n max\n1 ; ");
        fine("max 99999;");
        fault(1, "max ^100000;");
        fine("max 00001;");
        fault(1, "max ^000001;");
        fault(1, "max ^1a;");
        fault(1, "max ^12345x;");
        fault(1, "max 1^\t;");
        fault(1, "max 1^.;");
        fault(1, "max 1^<;");
        fault(1, "max 1^?;");
        fault(1, "max 1 ; row a:1^<2;");
        fine("max 1 ; row a:1<=2;");
        fine("var abcdefgh;max abcdefgh;");
        fault(1, "var ^abcdefghi;max 1;");
        fine("var Max;var x1;var X1;max Max+x1+X1;");
        fault(1, "var ^max;max 1;");
        fault(1, "var ^in;max 1;");
        fine("var inn;max inn;");
        fine("set S=1..3;max 1;");
        fine("set S=1 .. 3;max 1;");
        fault(1, "set S=1^. .3;max 1;");
        fault(1, "set S=1..^.3;max 1;");
        fault(1, "max 1;row a:1<=^=2;");
        fault(1, "max 1;row a:1^< =2;");
        fault(1, "max ^_x;");
        fault(1, "max 1; ^\u00e9");
    }

    private static void grammar() {
        fault(1, "^");
        fault(1, "  ^");
        fault(1, "max^");
        fault(1, "max 1^");
        fault(1, "max 1 ^max 1;");
        fault(1, "max 1; ^max 1;");
        fault(1, "max 1; ^var x;");
        fault(1, "^row a: 1 <= 1;");
        fault(1, "set S ^1..3;max 1;");
        fault(1, "set S = ^-1..3;max 1;");
        fault(1, "set S = 1..3 ^max 1;");
        fault(1, "par p = ^;max 1;");
        fault(1, "par p = 1,^;max 1;");
        fault(1, "par p = -^-1;max 1;");
        fault(1, "set S=1..2;par p[S ^S] = 1;max 1;");
        fault(1, "set S=1..2;par p[S,S^,S] = 1;max 1;");
        fault(1, "par p[^] = 1;max 1;");
        fault(1, "par p[^1] = 1;max 1;");
        fault(1, "var x ^= 1;max 1;");
        fault(1, "var x whole ^whole;max 1;");
        fault(1, "max ^;");
        fault(1, "max ^+1;");
        fault(1, "max 1+^;");
        fault(1, "max 1*^*1;");
        fault(1, "max (1^;");
        fault(1, "max 1^);");
        fault(1, "max (^);");
        fine("max - - 1 * - 2;");
        fine("max ((1)+2)*(3-4);");
        fault(1, "var x;max x[^];");
        fault(1, "var x;max x[1^*2];");
        fault(1, "var x;max x[1,2^,3];");
        fault(1, "var x;max x[^-1];");
        fault(1, "var x;max x[i+^i];");
        fault(1, "var x;max x[1^+1];");
        fault(1, "max sum ^1 in S (1);");
        fault(1, "max sum i ^S (1);");
        fault(1, "max sum i in ^1 (1);");
        fault(1, "max sum i in S ^1;");
        fault(1, "max sum i in S (1^;");
        fault(1, "max 1;row ^: 1<=1;");
        fault(1, "max 1;row a ^1<=1;");
        fault(1, "max 1;row a[^]:1<=1;");
        fault(1, "max 1;row a[i^]:1<=1;");
        fault(1, "max 1;row a[i in S^,j in S]:1<=1;");
        fault(1, "max 1;row a:1^;");
        fault(1, "max 1;row a:1<=1^<=1;");
        fault(1, "max 1;row a:1<=1^");
        fault(1, "max 1;row a:1<=1;^;");
        // FAULT 1 is looked for in all of the text ahead of the others.
        fault(1, "max x; row a: y <= 1 ^1;");
        // More than 2,000 bytes, whatever they are.
        Kit.due("2001 blanks", Kit.telling("max 1;" + times(" ", 1995)), "1 at 2000");
        Kit.due("2000 bytes", Kit.telling("max 1;" + times(" ", 1994)), "0");
        Kit.due("2001 bytes", Kit.telling("?" + times(" ", 2000)), "1 at 2000");
    }

    private static void depth() {
        fine("max " + times("-", 29) + "1;");
        fault(1, "max " + times("-", 30) + "^1;");
        fault(1, "max " + times("-", 30) + "^-1;");
        fine("max " + times("(", 29) + "1" + times(")", 29) + ";");
        fault(1, "max " + times("(", 30) + "^1" + times(")", 30) + ";");
        fine("max " + times("-(", 14) + "-1+1" + times(")", 14) + ";");
        fault(1, "max " + times("-(", 15) + "^1" + times(")", 15) + ";");
        // What stands beside is no deeper.
        fine("max " + times("(1+", 29) + "1" + times(")", 29) + ";");
        StringBuilder sums = new StringBuilder("set S=1..1;max ");
        for (int i = 0; i < 29; i++) {
            sums.append("sum i" + i + " in S(");
        }
        fine(sums + "i0+i28" + times(")", 29) + ";");
        fault(1, sums + "sum j in S(^1)" + times(")", 29) + ";");
    }

    private static void names() {
        fault(2, "max ^x;");
        fault(2, "set S=1..2;set ^S=1..2;max 1;");
        fault(2, "var x;par ^x=1;max 1;");
        fault(2, "var x;var ^x;max 1;");
        fault(2, "var x;max 1;row ^x:1<=1;");
        fault(2, "max 1;row a:1<=1;row ^a:1<=1;");
        fault(2, "par p[^S]=1;max 1;");
        fault(2, "par p[^p]=1;max 1;");
        fault(2, "var x;var y[^x];max 1;");
        fault(2, "set S=1..2;var y[S,^T];max 1;");
        fault(2, "set S=1..2;max ^S;");
        fault(2, "max 1;row a:^a<=1;");
        fault(2, "max sum i in ^S(1);");
        fault(2, "var x;max sum i in ^x(1);");
        fault(2, "set S=1..2;var x;max sum ^x in S(1);");
        fault(2, "set S=1..2;max sum ^S in S(1);");
        fault(2, "set S=1..2;max sum i in ^i(1);");
        fault(2, "set S=1..2;max sum i in S(sum ^i in S(1));");
        fine("set S=1..2;max sum i in S(1)+sum i in S(i);");
        fault(2, "set S=1..2;max sum i in S(1)+^i;");
        fine("set S=1..2;max sum i in S(1);row i:1<=1;");
        fine("set S=1..2;max 1;row a[i in S]:i<=9;row b[i in S]:i<=9;");
        fault(2, "set S=1..2;max 1;row a[^a in S]:1<=9;");
        fault(2, "set S=1..2;max 1;row a[i in ^T]:1<=9;");
        fault(2, "set S=1..2;max 1;row a[i in S]:1<=9;row b:^i<=9;");
        fault(2, "set S=1..2;max 1;row a[i in S]:sum ^i in S(1)<=9;");
        fault(2, "set S=1..2;max sum i in S(^i[1]);");
        fault(2, "set S=1..2;var x[S];max ^x;");
        fault(2, "set S=1..2;var x[S];max ^x[1,1];");
        fault(2, "set S=1..2;var x[S,S];max ^x[1];");
        fault(2, "var x;max ^x[1];");
        fault(2, "set S=1..2;var x[S];max x[^i];");
        fault(2, "set S=1..2;var x[S];max x[^S];");
        fault(2, "set S=1..2;par p=1;var x[S];max x[^p];");
        // What stands in [ ] is looked at ahead of how many they are, and how many ahead of where.
        fault(2, "var x;max x[^i];");
        fault(2, "set S=1..2;var x[S];max ^x[9,9];");
        fault(2, "set S=1..2;var x[S,S];max x[9,^i];");
    }

    private static void counts() {
        fault(3, "set ^S=2..1;max 1;");
        fine("set S=2..2;max 1;");
        fine("set S=0..11;max 1;");
        fault(3, "set ^S=0..12;max 1;");
        fine("set S=99988..99999;max 1;");
        fault(3, "set S=1..2;par ^p[S]=1;max 1;");
        fault(3, "set S=1..2;par ^p[S]=1,2,3;max 1;");
        fault(3, "par ^p=1,2;max 1;");
        fine("set S=1..2;set T=1..3;par p[S,T]=1,2,3,4,5,6;max p[2,1];");
        fault(3, "set S=1..2;set T=1..3;par ^p[S,T]=1,2,3,4,5;max 1;");
        fine("set S=1..12;par p[S,S]=" + times("1,", 143) + "1;max 1;");
        fault(3, "set S=1..12;par ^p[S,S]=" + times("1,", 144) + "1;max 1;");
    }

    private static void linear() {
        fault(4, "var x;var y;max x^*y;");
        fault(4, "var x;max 2*x^*x;");
        fault(4, "var x;max (x+1)^*(x-1);");
        fine("var x;max (x-x)*x;");
        fine("var x;max x*(x-x);");
        fine("var x;max 0*x*x;");
        fault(4, "var x;max x^*x*0;");
        fine("var x;max (1+2)*(x+3)*4;");
    }

    private static void ranges() {
        String head = "set S=2..4;set T=0..1;par p[S]=5,6,7;var x[S,T];";
        fine(head + "max x[2,0]+x[4,1];");
        fault(5, head + "max ^x[1,0];");
        fault(5, head + "max ^x[5,0];");
        fault(5, head + "max ^x[2,2];");
        fine(head + "max sum i in S(x[i,1]);");
        fault(5, head + "max sum i in S(^x[i,i]);");
        fault(5, head + "max sum i in S(^p[i+1]);");
        fault(5, head + "max sum i in S(^p[i-1]);");
        fine(head + "max sum i in T(p[i+2]);");
        fine(head + "max 1;row a[i in T]:p[i+3]<=9;");
        fault(5, head + "max 1;row a[i in T]:^p[i+4]<=9;");
        fault(5, head + "max sum i in T(^p[i-99999]);");
    }

    private static void great() {
        fine("max 99999;");
        fine("max -99999;");
        fault(6, "max 99999^+1;");
        fault(6, "max -99999^-1;");
        fault(6, "max 99999^+1-1;");
        fine("max 99999-1+1;");
        fault(6, "max 50000^*2;");
        fine("max 33333*3;");
        fault(6, "max 50000^*2*0;");
        fine("max 50000*0*2;");
        fault(6, "var x;max 50000*x^*2;");
        fault(6, "var x;max 50000*x+49999*x^+x;");
        fine("var x;max 50000*x+49999*x;");
        fault(6, "set S=1..12;max ^sum i in S(9000);");
        fine("set S=1..11;max sum i in S(9000);");
        fault(6, "set S=1..12;max 1-(2*(^sum i in S(i*2000)));");
        fault(6, "var x;max 1;row a:99999*x^<=-1*x;");
        fault(6, "var x;max 1;row a:99999*x^>=-x;");
        fault(6, "max 1;row a:99999^=-1;");
        fine("max 1;row a:99999=99999;");
        fine("var x;max 1;row a:99999*x<=x;");
        fine("max -(99999);");
    }

    private static void much() {
        StringBuilder sets = new StringBuilder();
        for (int i = 1; i <= 8; i++) {
            sets.append("set S" + i + "=1..1;");
        }
        fine(sets + "max 1;");
        fault(7, sets + "set ^T=1..1;max 1;");
        fault(3, sets + "set ^T=2..1;max 1;");
        fault(2, sets + "set ^S1=2..1;max 1;");
        StringBuilder pars = new StringBuilder();
        for (int i = 1; i <= 12; i++) {
            pars.append("par p" + i + "=1;");
        }
        fine(pars + "max p12;");
        fault(7, pars + "par ^q=1;max 1;");
        fault(3, pars + "par ^q=1,2;max 1;");
        fault(2, pars + "par q[^S]=1,2;max 1;");
        fine("set S=1..3;set T=1..4;var x[S,T];max 1;");
        fault(7, "set S=1..3;set T=1..4;var x[S,T];var ^y;max 1;");
        fault(7, "set S=1..3;set T=1..5;var ^x[S,T];max 1;");
        fault(2, "set S=1..3;set T=1..4;var x[S,T];var ^x;max 1;");
        fine("set S=1..12;max 1;row a[i in S]:1<=1;row b:1=1;row c:1=1;");
        fault(7, "set S=1..12;max 1;row a[i in S]:1<=1;row b:1=1;row c:1=1;row ^d:1<=1;");
        fault(7, "set S=1..12;max 1;row a[i in S]:1<=1;row b:1=1;row c:1<=1;row ^d:1=1;");
        fine("set S=1..8;max 1;row a[i in S]:1=1;");
        fault(7, "set S=1..9;max 1;row ^a[i in S]:1=1;");
        // What stands in the row of the ninth index comes ahead of its being MUCH.
        fault(6, "set S=1..9;max 1;row a[i in S]:i^*11112=1;");
        fault(7, "set S=1..9;max 1;row ^a[i in S]:i*11111=1;");
        factors();
    }

    /** 12 * 12 * 12 = 1,728 times a body, so 20,000 F's can be met one by one. */
    private static void factors() {
        // sum, 12 sums, 144 sums: 157 F's; then 1,728 bodies of 11: 19,008; in all 19,165. 835 are left.
        String text = "set S=1..12;max sum i in S(sum j in S(sum k in S(0" + times("*0", 10) + ")))";
        fine(text + ";");
        fine(text + times("+0", 417) + ";");
        fine(text + "+sum i in S(" + "0" + times("*0", 68) + ")+0+0+0+0+0+0;");
        fault(7, text + "+sum i in S(" + "0" + times("*0", 68) + ")+0+0+0+0+0+0+^0;");
        fault(7, text + "+sum i in S(" + "0" + times("*0", 68) + ")+0+0+0+0+0+0+^(0);");
        fault(2, text + "+sum i in S(" + "0" + times("*0", 68) + ")+0+0+0+0+0+0+^x;");
        fault(7, "set S=1..12;max sum i in S(sum j in S(sum k in S(sum l in S(^0))));");
    }

    private static void order() {
        // Of two parts the left one first, then what is between.
        fault(2, "max ^x*y;");
        fault(6, "max 99999^*9*y;");
        fault(2, "max 99999*^y;");
        fault(6, "max 99999^*9+y;");
        fault(2, "var x;max x*^z;");
        fault(2, "max 1;row a:99999<=-1+^y;");
        fault(6, "max 1;row a:99999^+1<=y;");
        // A sum is looked at index by index.
        fault(5, "set S=1..3;par p[S]=1,2,3;max sum i in S(^p[i+3]+y);");
        fault(2, "set S=1..3;par p[S]=1,2,3;max sum i in S(p[i+1]+^y);");
        fault(6, "set S=1..3;par p[S]=60000,60000,3;max ^sum i in S(p[i]+0*p[i+0]);");
        // TOLD: its NAME, its INDEXES, then its values.
        fault(2, "var x;par ^x[S]=1;max 1;");
        fault(2, "par p[^S]=1,2;max 1;");
        fault(2, "set S=1..2;par p[S,^T]=1;max 1;");
    }

    /** A tell with a FAULT leaves the model and its work. */
    private static void keeps() {
        OptimumHouse house = Kit.house("var x;var y;max 3*x+2*y;row a:x+y<=4;row b:x+3*y<=6;row c:x<=3;");
        house.begin(0);
        house.work(1);
        String before = ReferenceWork.picture(house);
        Kit.due("tell", Kit.tell(house, "var z;min z;row a:z>=1+q;"), 2);
        Kit.due("as it was", ReferenceWork.picture(house), before);
        Kit.due("n", house.size(0), 2);
        Kit.due("max", house.size(3), 1);
        Kit.due("work goes on", house.work(5), 1);
        Kit.due("optimal", house.look(0), 2);
        Kit.due("tell", Kit.tell(house, "var z;min z;row a:z>=1;"), 0);
        Kit.due("its work is not begun", house.look(0), 0);
        Kit.due("phase", house.look(7), 0);
        Kit.due("proof", house.proof(0), OptimumHouse.NONE);
        Kit.due("told", house.told(0, 0), OptimumHouse.NONE);
        Kit.due("place", house.place(1), OptimumHouse.NONE);
        Kit.due("work", house.work(1), 0);
        Kit.due("n", house.size(0), 1);
        Kit.due("max", house.size(3), 0);
    }

    private static void latest() {
        OptimumHouse house = new OptimumHouse();
        Kit.due("before any", house.fault(0), 0);
        Kit.due("before any", house.fault(1), OptimumHouse.NONE);
        Kit.tell(house, "max 1");
        Kit.due("1", house.fault(0), 1);
        Kit.due("at the end", house.fault(1), 5);
        Kit.tell(house, "max 1;");
        Kit.due("none", house.fault(0), 0);
        Kit.due("none", house.fault(1), OptimumHouse.NONE);
        Kit.check(house, "optimal 2 / 1 at / 1 bound 1 ;");
        Kit.due("3", house.fault(0), 3);
        Kit.due("at optimal", house.fault(1), 0);
        Kit.tell(house, "max y;");
        Kit.due("2", house.fault(0), 2);
        Kit.due("at y", house.fault(1), 4);
        Kit.check(house, "optimal 1 / 1 at / 1 bound 1 ;");
        Kit.due("none", house.fault(0), 0);
        Kit.due("none", house.fault(1), OptimumHouse.NONE);
        int[] odd = {-1, 2, 3, Integer.MIN_VALUE, Integer.MAX_VALUE};
        for (int what : odd) {
            Kit.due("another what", house.fault(what), OptimumHouse.NONE);
        }
    }
}
