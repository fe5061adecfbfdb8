import java.io.IOException;
import java.nio.file.Files;
import java.nio.file.Path;
import java.util.List;
import java.util.NoSuchElementException;

/** Each sentence of the document's 'Terms', at its bounds: the last that is taken, the first that is not. */
public final class DutyCaseTermsBoundsTest {
    private static final int NONE = DutyCase.NONE;
    private static final int HOME = 0;
    private static final int EXPORT = 1;
    private static final int THIRD = 2;
    private static final int METHOD = 0;
    private static final int ZEROING = 1;
    private static final int LESSER = 2;
    private static final int BY_MONTHS = 3;
    private static final int PROFIT = 4;
    private static final int STEP = 5;
    private static final List<String> LINE_WORDS = PlainCase.WORDS.subList(0, 8);

    /** Two models of cost 100 and four firms, for sales put in by the test. */
    private static final String PLAIN = "model a 100 0 0;model b 100 0 0;firm w;firm x;firm y;firm z;";

    /** All models and firms that there can be, of cost 7. */
    private static final String SIX = "model a 7 1 1;model b 7 2 1;model c 7 4 1;model d 7 7 1;model e 7 11 1;"
            + "model f 7 16 1;firm w;firm x;firm y;firm z;";

    private final Check check = new Check();
    private final Refusals refusals = new Refusals(check);
    private final Sentences sentences;

    private DutyCaseTermsBoundsTest() throws IOException {
        sentences = new Sentences(check);
    }

    public static void main(String[] args) throws IOException {
        DutyCaseTermsBoundsTest t = new DutyCaseTermsBoundsTest();
        t.calls();
        t.text();
        t.names();
        t.numbersAndSums();
        t.blanksAndWords();
        t.modelsAndFirms();
        t.costsAndSales();
        t.lastOneCounts();
        t.faults();
        t.off();
        t.base();
        t.below();
        t.averages();
        t.worthOfItself();
        t.worthOfAnother();
        t.worthOfCost();
        t.worthMoreAndLess();
        t.worthByMonths();
        t.methods();
        t.methodOfPairs();
        t.sums();
        t.margins();
        t.negligible();
        t.injury();
        t.duties();
        t.undertakings();
        t.picked();
        t.deposits();
        t.weights();
        t.acts();
        t.written();
        t.exceptions();
        t.heads();
        t.sentences.finish("Terms");
        t.check.finish();
    }

    private void says(String quote) {
        sentences.says("Terms", quote);
    }

    private void due(String what, long got, long want) {
        check.due(what, got, want);
    }

    private void due(String what, boolean got, boolean want) {
        check.due(what, got, want);
    }

    private static DutyCase told(String text) {
        return Check.told(text);
    }

    private void faultIs(String text, int at) {
        DutyCase x = new DutyCase();
        boolean isWrong = false;
        due("the text's fitting: " + text, Check.end(x, text), true);
        try {
            x.read();
        } catch (IllegalArgumentException e) {
            isWrong = true;
        }
        due("fault of: " + text, x.fault(), at);
        due("whether it is wrong: " + text, isWrong, at != NONE);
    }

    private void isRight(String text) {
        faultIs(text, NONE);
    }

    // ---- What it is

    private void calls() {
        sentences.says("What it is", "An object is used for at most 512 calls after it has been made");
        DutyCase x = new DutyCase();
        for (int call = 1; call <= 509; call++) {
            due("call " + call, x.set(STEP, call % 100), (call + 99) % 100 == 0 ? 0 : (call - 1) % 100);
        }
        due("call 510", x.count(9), 9);
        due("call 511", x.undo(), 15);
        due("call 512", x.count(9), 8);
    }

    // ---- 1

    private void text() {
        says("THE TEXT has at most 400 bytes: { LINE ; }.");
        isRight("");
        isRight("firm x;" + " ".repeat(386) + "firm y;");
        faultIs("firm x;" + " ".repeat(386) + "firm y,", 399);
        faultIs("firm x;" + " ".repeat(387) + "firm y", 400);
        due("both are told", told("firm x;" + " ".repeat(386) + "firm y;").count(1), 2);
        faultIs(";", 0);
        faultIs("firm x;;", 7);
        faultIs("firm x", 6);
        DutyCase full = new DutyCase();
        Check.end(full, " ".repeat(400));
        due("a 401st byte", full.feed(0x66000000, 0, 0, 0, 0), NONE);

        says("LINE: model NAME N N N | firm NAME | silent NAME | cost NAME NAME N | adjust MARKET SUM"
                + " | sell MARKET NAME NAME N N N N | profit N | step N.");
        eachPiece("", "model", "a", "1", "2", "3", ";");
        eachPiece("", "firm", "x", ";");
        eachPiece("firm x;", "silent", "x", ";");
        eachPiece("firm x;model a 1 1 1;", "cost", "x", "a", "7", ";");
        eachPiece("", "adjust", "third", "q", "+", "(", "p", "-", "1", ")", "*", "2", "/", "l", ";");
        eachPiece("firm x;model a 1 1 1;", "sell", "home", "x", "a", "1", "2", "3", "4", ";");
        eachPiece("", "profit", "5", ";");
        eachPiece("", "step", "5", ";");
        for (String word : PlainCase.MARKETS) {
            faultIs(word + " 5;", 0);
            faultIs(word + " x;", 0);
        }

        says("MARKET: home, export or third.");
        for (int market = 0; market < 3; market++) {
            String word = PlainCase.MARKETS.get(market);
            DutyCase x = told("firm x;model a 1 1 1;adjust " + word + " 7;sell " + word + " x a 0 0 1 9;");
            due("the market's number of " + word, x.sale(0, 0), market);
            due("off by " + word, x.sale(0, 7), 7);
            faultIs("adjust " + word + "s 1;", 7);
            faultIs("adjust " + word.substring(1) + " 1;", 7);
        }
        for (String word : LINE_WORDS) {
            faultIs("adjust " + word + " 1;", 7);
        }
        faultIs("adjust 0 1;", 7);
    }

    /** A line is right as it is, wrong where a piece is another, not at its end where it is cut. */
    private void eachPiece(String ahead, String... pieces) {
        isRight(ahead + String.join(" ", pieces));
        for (int k = 0; k < pieces.length; k++) {
            String start = ahead + String.join(" ", List.of(pieces).subList(0, k)) + " ";
            String rest = String.join(" ", List.of(pieces).subList(k + 1, pieces.length));
            faultIs(start + "# " + rest, start.length());
            if (k > 0) {
                faultIs(start, start.length());
            }
        }
        String all = ahead + String.join(" ", List.of(pieces).subList(0, pieces.length - 1)) + " ";
        faultIs(all + "x;", all.length());
        faultIs(all + "1;", all.length());
    }

    private void names() {
        says("NAME: 1 to 6 letters a to z, none of model, firm, silent, cost, adjust, sell, profit, step, home,"
                + " export, third.");
        faultIs("firm ;", 5);
        isRight("firm a;firm z;");
        isRight("firm abcdef;model uvwxyz 1 1 1;");
        faultIs("firm abcdefg;", 5);
        faultIs("model uvwxyza 1 1 1;", 6);
        for (char sign : new char[] {'`', '{', '@', 'A', 'Z', '[', '_', '-', '0', 225, 255}) {
            faultIs("firm " + sign + ";", 5);
            faultIs("firm a" + sign + ";", 6);
        }
        for (String word : PlainCase.WORDS) {
            faultIs("firm " + word + ";", 5);
            faultIs("model " + word + " 1 1 1;", 6);
            isRight("firm " + word.substring(1) + ";firm z" + word.substring(1) + ";");
            isRight("firm " + word.substring(0, word.length() - 1) + ";");
        }
        isRight("firm models;firm firms;model homes 1 1 1;");
    }

    private void numbersAndSums() {
        says("N: 1 to 5 digits.");
        faultIs("step ;", 5);
        isRight("step 0;step 9;step 00099;");
        faultIs("step 000099;", 5);
        faultIs("step 000000;", 5);
        faultIs("step 99999;", 5);
        faultIs("step 4294967296;", 5);
        for (char sign : new char[] {'/', ':', '-', '+', '.', 'x', 178}) {
            faultIs("step " + sign + ";", 5);
            faultIs("step 1" + sign + ";", 6);
        }

        says("SUM: TERM { + TERM | - TERM }; TERM: ATOM { * ATOM | / ATOM }; ATOM: N (of 4 digits at most),"
                + " a word of one letter, q, p, l, m or c, or ( SUM ).");
        isRight("adjust home 0;adjust home 9999;adjust home 0000;");
        faultIs("adjust home 00000;", 12);
        faultIs("adjust home 10000;", 12);
        faultIs("adjust home 1+10000;", 14);
        for (char letter = 'a'; letter <= 'z'; letter++) {
            faultIs("adjust home " + letter + ";", "qplmc".indexOf(letter) >= 0 ? NONE : 12);
        }
        faultIs("adjust home qp;", 12);
        faultIs("adjust home Q;", 12);
        isRight("adjust home q+p-l+m-c;");
        isRight("adjust home q*p/l*m/c;");
        faultIs("adjust home q p;", 14);
        faultIs("adjust home 1 2;", 14);
        faultIs("adjust home q q+1;", 14);
        faultIs("adjust home (q)(p);", 15);
        faultIs("adjust home +q;", 12);
        faultIs("adjust home -1;", 12);
        faultIs("adjust home q+;", 14);
        faultIs("adjust home q+-1;", 14);
        faultIs("adjust home q*/1;", 14);
        faultIs("adjust home q%1;", 13);
        faultIs("adjust home ();", 13);
        faultIs("adjust home (q;", 14);
        faultIs("adjust home (q));", 15);
        faultIs("adjust home q);", 13);

        says("At most 6 ( within one another.");
        isRight("adjust home ((((((q))))));");
        faultIs("adjust home (((((((q)))))));", 18);
        isRight("adjust home ((((((q))))))*((((((q))))))-((((((q))))));");
        faultIs("adjust home ((((((q))))))*(((((((q)))))));", 32);
        isRight("adjust home (((((q*(p)+(l)-(m))))));");
        faultIs("adjust home (((((q*(p)+(l)-((m)))))));", 28);
        isRight("adjust home ((((((q))))));adjust third ((((((q))))));");
    }

    private void blanksAndWords() {
        says("BLANKS (9, 10, 32) may stand between all");
        for (int sign = 0; sign < 256; sign++) {
            String s = String.valueOf((char) sign);
            boolean isBlank = sign == 9 || sign == 10 || sign == 32;
            boolean isLetter = sign >= 'a' && sign <= 'z';
            faultIs("firm" + s + "x" + s + ";" + s, isBlank ? NONE : isLetter ? 0 : 4);
            faultIs(s, isBlank ? NONE : 0);
        }
        String b = " \t\n\n\t ";
        isRight(b + "firm" + b + "x" + b + ";" + b + "adjust" + b + "home" + b + "(" + b + "q" + b + "*" + b + "1"
                + b + ")" + b + ";" + b);
        isRight("firm x;model a1 2 3;cost x a4;adjust home(q+1)*2;sell home x a0 0 1 1;step0;profit0;");

        says("words are as many small letters as stand there, N as many digits.");
        faultIs("firmx;", 0);
        faultIs("fir mx;", 0);
        faultIs("modela 1 1 1;", 0);
        faultIs("fir", 0);
        faultIs("firm x;sto", 7);
        faultIs("firm abcdefghijklm;", 5);
        faultIs("adjust homeq;", 7);
        faultIs("adjust home qq;", 12);
        faultIs("model a 111 1;", 13);
        faultIs("model a 1 1111 1;", 10);
        faultIs("adjust home 12345;", 12);
        faultIs("firm x1;", 6);
        faultIs("step 1x;", 6);
    }

    private void modelsAndFirms() {
        says("model: a MODEL (6 at most, numbered from 0 on as they come): COST 1 to 9999, its LIKENESS 0 to 99,"
                + " TARGET 0 to 9999.");
        String six = "model a 1 1 1;model f 2 1 1;model b 3 1 1;model e 4 1 1;model c 5 1 1;model d 6 1 1;";
        faultIs(six + "model g 1 1 1;", six.length());
        DutyCase x = told(six);
        due("models", x.count(0), 6);
        for (int i = 0; i < 6; i++) {
            due("name of " + i, x.name(false, i, 0), "afbecd".charAt(i));
            due("cost of " + i, x.model(i, 0), i + 1);
        }
        faultIs("model a 0 0 0;", 8);
        isRight("model a 1 0 0;");
        isRight("model a 9999 99 9999;");
        faultIs("model a 10000 99 9999;", 8);
        faultIs("model a 9999 100 9999;", 13);
        faultIs("model a 9999 99 10000;", 16);
        DutyCase most = told("model a 9999 99 9999;model b 1 0 0;");
        due("most cost", most.model(0, 0), 9999);
        due("most likeness", most.model(0, 1), 99);
        due("most target", most.model(0, 2), 9999);
        due("least", most.model(1, 0) * 10000 + most.model(1, 1) + most.model(1, 2), 10000);

        says("firm: a FIRM (4 at most), numbered likewise.");
        String four = "firm d;firm a;firm c;firm b;";
        faultIs(four + "firm e;", four.length());
        DutyCase y = told(four);
        due("firms", y.count(1), 4);
        for (int i = 0; i < 4; i++) {
            due("name of " + i, y.name(true, i, 0), "dacb".charAt(i));
        }

        says("silent: a FIRM told ahead.");
        faultIs("silent x;firm x;", 7);
        faultIs("model x 1 1 1;silent x;", 21);
        isRight("firm x;silent x;silent x;");
        DutyCase z = told("firm x;firm y;silent y;");
        due("it was silent", z.silent(1, true), true);
        due("the other was not", z.silent(0, true), false);
    }

    private void costsAndSales() {
        says("cost: of a FIRM and a MODEL told ahead: COST of that MODEL for that FIRM (in place of the MODEL's).");
        String ahead = "firm x;firm y;model a 5 1 1;model b 6 1 1;";
        faultIs("model a 5 1 1;cost x a 7;firm x;", 19);
        faultIs("firm x;cost x a 7;model a 5 1 1;", 14);
        faultIs(ahead + "cost a x 7;", ahead.length() + 5);
        faultIs(ahead + "cost x y 7;", ahead.length() + 7);
        faultIs(ahead + "cost x a 0;", ahead.length() + 9);
        faultIs(ahead + "cost x a 10000;", ahead.length() + 9);
        DutyCase x = told(ahead + "cost y a 1;cost x b 9999;");
        due("least", x.cost(1, 0), 1);
        due("most", x.cost(0, 1), 9999);
        due("of another firm", x.cost(0, 0), 5);
        due("of another model", x.cost(1, 1), 6);
        due("the model's own", x.model(0, 0), 5);

        says("adjust: what is taken off in that MARKET (0 without).");
        DutyCase y = told("firm x;model a 5 1 1;adjust export 3;sell home x a 0 0 1 9;sell export x a 0 0 1 9;"
                + "sell third x a 0 0 1 9;");
        due("off at home", y.sale(0, 7), 0);
        due("off abroad", y.sale(1, 7), 3);
        due("off in third lands", y.sale(2, 7), 0);

        says("sell: a SALE (40 at most, numbered) of a FIRM and a MODEL told ahead: LEVEL 0 to 3, MONTH 0 to 11,"
                + " MANY 1 to 999, PRICE 1 to 9999.");
        String short18 = "model a1 0 0;firm x;" + "sell home x a0 0 1 1;".repeat(18);
        DutyCase z = told(short18);
        due("as many as a text can hold", z.count(2), 18);
        for (int n = 18; n < 40; n++) {
            due("its number", z.put(n % 3, 0, 0, 0, 0, 1, n), n);
        }
        check.thrown(IllegalStateException.class, () -> z.put(0, 0, 0, 0, 0, 1, 1), "a 41st");
        due("the last one", z.sale(39, 6), 39);
        String two = "firm x;model a 1 1 1;";
        faultIs("model a 1 1 1;sell home x a 0 0 1 1;firm x;", 24);
        faultIs("firm x;sell home x a 0 0 1 1;model a 1 1 1;", 19);
        isRight(two + "sell home x a 0 0 1 1;sell home x a 3 11 999 9999;");
        faultIs(two + "sell home x a 4 0 1 1;", 35);
        faultIs(two + "sell home x a 3 12 1 1;", 37);
        faultIs(two + "sell home x a 3 11 0 1;", 40);
        faultIs(two + "sell home x a 3 11 1000 1;", 40);
        faultIs(two + "sell home x a 3 11 999 0;", 44);
        faultIs(two + "sell home x a 3 11 999 10000;", 44);
        DutyCase most = told(two + "sell third x a 3 11 999 9999;");
        int[] all = {2, 0, 0, 3, 11, 999, 9999};
        for (int what = 0; what < all.length; what++) {
            due("the greatest, what " + what, most.sale(0, what), all[what]);
        }
    }

    private void lastOneCounts() {
        says("profit: PROFIT 0 to 99 (10 without); step: STEP 0 to 99 (0 without).");
        isRight("profit 0;profit 99;step 0;step 99;");
        faultIs("profit 100;", 7);
        faultIs("step 100;", 5);
        due("profit without", told("step 7;").count(8), 10);
        due("step without", told("profit 7;").count(9), 0);
        due("most profit", told("profit 99;").count(8), 99);
        due("least profit", told("profit 0;").count(8), 0);
        due("most step", told("step 99;").count(9), 99);

        says("Of cost (for the same two), adjust (for the same MARKET), profit, step the last one counts.");
        DutyCase x = told("firm x;firm y;model a 5 1 1;model b 6 1 1;cost x a 1;cost x b 2;cost y a 3;cost x a 4;"
                + "adjust home 1;adjust third 2;adjust home 3;profit 1;profit 2;step 3;step 4;"
                + "sell home x a 0 0 1 9;sell third x a 0 0 1 9;adjust home 5;");
        due("cost", x.cost(0, 0), 4);
        due("cost of another model", x.cost(0, 1), 2);
        due("cost of another firm", x.cost(1, 0), 3);
        due("adjust, told behind the sale too", x.sale(0, 7), 5);
        due("adjust of another market", x.sale(1, 7), 2);
        due("profit", x.count(8), 2);
        due("step", x.count(9), 4);

        says("NAMES of MODELS, of FIRMS: each once among their like.");
        isRight("firm x;model x 1 1 1;firm y;model y 1 1 1;");
        isRight("firm x;firm xx;firm xxx;firm xy;");
        faultIs("firm x;firm y;firm x;", 19);
        faultIs("model x 1 1 1;model y 1 1 1;model x 1 1 1;", 34);
        faultIs("firm abcdef;firm abcdef;", 17);
        isRight("firm abcdef;firm abcdeg;");
    }

    private void faults() {
        says("THE FAULT: the first byte with which no such text goes on (a word, a number at its first byte:"
                + " one too long, out of bounds");
        faultIs("firm x;fern y;", 7);
        faultIs("firm x; \n\t fern y;", 11);
        faultIs("firm x,", 6);
        faultIs("firm x ,", 7);
        faultIs("firm x firm y;", 7);
        faultIs("firm x; firm abcdefg;", 13);
        faultIs("step  123456;", 6);
        faultIs("step  100;", 6);
        faultIs("step 1 2;", 7);
        faultIs("\u00ff", 0);
        faultIs("step 1;\u0000", 7);

        says("a NAME told already, or not told");
        faultIs("firm xyz;firm  xyz;", 15);
        faultIs("firm xyz;silent  xy;", 17);
        faultIs("firm xyz;silent xyza;", 16);

        says("a seventh model, a fifth firm, a 41st sell at that word");
        String six = "";
        for (char name = 'a'; name < 'g'; name++) {
            six += "model " + name + " 1 1 1;";
        }
        isRight(six);
        faultIs(six + "\nmodel", six.length() + 1);
        faultIs(six + "model a 0 0 0;", six.length());
        String four = "firm a;firm b;firm c;firm d;";
        isRight(four);
        faultIs(four + " firm", four.length() + 1);
        faultIs(four + "firm a;", four.length());
        // A text of 400 bytes has 18 sells at most: only put comes to a 41st one.
        isRight("model a1 0 0;firm x;" + "sell home x a0 0 1 1;".repeat(18));

        says("a seventh ( at it)");
        faultIs("adjust home ( ( ( ( ( ( (", 24);
        faultIs("adjust home 1+(2*(3-(4/(5+(6*(7-(8", 32);

        says("the text's length, if more must come.");
        cutEverywhere();
        faultIs("firm", 4);
        faultIs("firm  \n", 7);
        faultIs("firm x \t", 8);
        faultIs("adjust home (q", 14);
        faultIs("adjust home q-", 14);
    }

    /** A right text, cut behind each of its bytes: what stands then is right, a piece of a word, or too short. */
    private void cutEverywhere() {
        String text = "firm xy;model ab 12 34 56;cost xy ab 78; sell export xy ab 1 11 5 6;adjust third (p+1)/2 ;step 5;";
        for (int n = 0; n <= text.length(); n++) {
            String cut = text.substring(0, n);
            int start = n;
            while (start > 0 && Character.isLetter(cut.charAt(start - 1))) {
                start--;
            }
            String word = cut.substring(start);
            boolean isWhole = n == text.length() || !Character.isLetter(text.charAt(n));
            // A new name's beginning is a name, all other words' beginnings are none.
            boolean isPiece = !word.isEmpty() && !isWhole && start != text.indexOf("xy") && start != text.indexOf("ab");
            boolean isRight = cut.trim().isEmpty() || cut.trim().endsWith(";");
            faultIs(cut, isRight ? NONE : isPiece ? start : n);
        }
    }

    // ---- 2

    private void offIs(String sum, int off) {
        DutyCase x = told("adjust home " + sum + ";firm w;firm x;model a 70 0 0;cost x a 77;"
                + "sell home x a 3 11 5 1000;");
        due("off of " + sum, x.sale(0, 7), off);
    }

    private void netIs(String sum, int net) {
        DutyCase x = told("adjust third " + sum + ";firm x;model a 70 0 0;sell third x a 3 11 5 1000;");
        due("net with off " + sum, x.sale(0, 8), net);
    }

    private void off() {
        says("OFF of a SALE: its MARKET's SUM by its MANY (q), PRICE (p), LEVEL (l), MONTH (m), COST (c: of its MODEL"
                + " for its FIRM)");
        offIs("q", 5);
        offIs("p", 1000);
        offIs("l", 3);
        offIs("m", 11);
        offIs("c", 77);
        offIs("q+p-l*m/c", 5 + 1000);
        offIs("(q+p-l)*m/c", 143);

        says("each + - * / kept within -1000000 to 1000000");
        offIs("9999*100+99", 999999);
        offIs("9999*100+100", 1000000);
        offIs("9999*100+101", 1000000);
        offIs("9999*100+101-1", 999999);
        offIs("0-9999*100-99", -999999);
        offIs("0-9999*100-100", -1000000);
        offIs("0-9999*100-101", -1000000);
        offIs("0-9999*100-101+1", -999999);
        offIs("1000*1000", 1000000);
        offIs("1001*1000-1", 999999);
        offIs("(0-1000)*1000", -1000000);
        offIs("(0-1001)*1000+1", -999999);
        offIs("(9999*9999)*(9999*9999)", 1000000);
        offIs("(9999*9999)*(0-9999*9999)", -1000000);
        offIs("(0-9999*9999)/(0-1)", 1000000);
        offIs("9999*9999/(0-1)", -1000000);

        says("/ rounds down, by 0 it is 0.");
        offIs("7/2", 3);
        offIs("8/2", 4);
        offIs("(0-7)/2", -4);
        offIs("(0-8)/2", -4);
        offIs("7/(0-2)", -4);
        offIs("(0-7)/(0-2)", 3);
        offIs("1/9999", 0);
        offIs("(0-1)/9999", -1);
        offIs("7/0", 0);
        offIs("0/0", 0);
        offIs("(0-7)/(l-3)", 0);
        offIs("9+7/0", 9);

        says("NET: PRICE less OFF, 0 to 99999 (what is below, above is that).");
        netIs("0", 1000);
        netIs("999", 1);
        netIs("1000", 0);
        netIs("1001", 0);
        netIs("9999*9999", 0);
        netIs("0-9899*10-8", 99998);
        netIs("0-9899*10-9", 99999);
        netIs("0-9900*10", 99999);
        netIs("0-9999*9999", 99999);
    }

    private void base() {
        says("BASE of a FIRM: home, if 20 times all MANY of its SALES there are not less than all MANY of its SALES"
                + " of export; else third, if likewise there; else none (a MARKET without any SALE of it is none).");
        DutyCase x = told(PLAIN);
        due("without any sale", x.base(0), NONE);
        x.put(EXPORT, 0, 0, 0, 0, 39, 100);
        due("exports alone", x.base(0), NONE);
        x.put(HOME, 0, 0, 0, 0, 1, 100);
        x.put(HOME, 0, 1, 3, 5, 1, 100);
        due("40 by 39", x.base(0), HOME);
        x.put(EXPORT, 0, 1, 0, 0, 1, 100);
        due("40 by 40", x.base(0), HOME);
        x.put(EXPORT, 0, 0, 1, 0, 1, 100);
        due("40 by 41", x.base(0), NONE);
        x.put(THIRD, 0, 0, 0, 0, 2, 100);
        due("third 40 by 41", x.base(0), NONE);
        x.put(THIRD, 0, 1, 0, 0, 1, 100);
        due("third 60 by 41", x.base(0), THIRD);
        x.put(HOME, 1, 0, 0, 0, 9, 100);
        due("another's at home", x.base(0), THIRD);
        x.put(HOME, 0, 0, 0, 0, 1, 100);
        due("home is ahead of third", x.base(0), HOME);
        due("home without exports", x.base(1), HOME);
        x.put(THIRD, 2, 0, 0, 0, 1, 100);
        due("third without exports", x.base(2), THIRD);
        due("none of all", x.base(3), NONE);
        DutyCase most = told(PLAIN);
        for (int n = 0; n < 39; n++) {
            most.put(EXPORT, 0, 0, 0, 0, 999, 1);
        }
        most.put(HOME, 0, 0, 0, 0, 999, 1);
        due("19980 by 38961", most.base(0), NONE);
    }

    private void below() {
        says("BELOW: a SALE in its FIRM's BASE with NET below COST.");
        DutyCase x = told("adjust home 5;adjust third 5;model a 90 0 0;firm x;firm y;cost x a 100;");
        int at = x.put(HOME, 0, 0, 0, 0, 10, 105);
        int under = x.put(HOME, 0, 0, 0, 0, 1, 104);
        int apart = x.put(THIRD, 0, 0, 0, 0, 1, 1);
        int abroad = x.put(EXPORT, 0, 0, 0, 0, 1, 1);
        int others = x.put(HOME, 1, 0, 0, 0, 1, 104);
        due("at cost", x.sale(at, 9), 0);
        due("one less", x.sale(under, 9), 1);
        due("not in base", x.sale(apart, 9), 0);
        due("an export", x.sale(abroad, 9), 0);
        due("by the model's own cost", x.sale(others, 9), 0);
        x.costs(1, 0, 99);
        due("at cost told", x.sale(others, 9), 0);
        x.costs(1, 0, 100);
        due("below cost told", x.sale(others, 9), 1);
        DutyCase last = told(SIX);
        last.put(HOME, 3, 5, 0, 0, 1, 7);
        due("at the last model's cost", last.sale(0, 9), 0);
        last.costs(3, 5, 8);
        due("below the last model's cost", last.sale(0, 9), 1);

        says("OUT are BELOW ones of a FIRM and MODEL, if 5 times their MANY together is not less than MANY of all such"
                + " SALES of both in BASE.");
        DutyCase y = told(PLAIN);
        y.put(HOME, 0, 0, 0, 0, 9, 100);
        y.put(HOME, 0, 0, 1, 0, 1, 99);
        y.put(HOME, 0, 0, 2, 0, 1, 98);
        y.put(HOME, 0, 1, 0, 0, 500, 100);
        y.put(HOME, 1, 0, 0, 0, 500, 100);
        y.put(THIRD, 0, 0, 0, 0, 500, 100);
        due("10 by 11: not out", y.below(0, 0, 2), 0);
        y.drop(0);
        y.put(HOME, 0, 0, 0, 0, 8, 100);
        due("10 by 10: out", y.below(0, 0, 2), 1);
        due("no below ones, none out", y.below(0, 1, 2), 0);
        y.drop(6);
        due("all below", y.below(0, 0, 2), 1);

        says("IN: SALES in BASE that are not OUT.");
        y.put(HOME, 0, 0, 0, 0, 8, 100);
        due("below and out", y.sale(1, 10), 0);
        due("below and out", y.sale(2, 10), 0);
        due("not below", y.sale(7, 10), 1);
        due("another market", y.sale(5, 10), 0);
        y.put(HOME, 0, 0, 0, 0, 1, 100);
        due("below, not out", y.sale(1, 10), 1);
        due("below, not out", y.sale(2, 10), 1);
        due("another model", y.sale(3, 10), 1);
    }

    private void averages() {
        says("AVERAGE of some SALES: 1000 times NET and MANY of each multiplied, all together, by MANY of all,"
                + " rounded down.");
        DutyCase x = told(PLAIN);
        x.put(EXPORT, 0, 0, 0, 0, 2, 100);
        due("one", x.group(0, 0, 4), 100000);
        x.put(EXPORT, 0, 0, 0, 0, 1, 101);
        due("a third", x.group(0, 0, 4), 100333);
        x.put(EXPORT, 0, 0, 0, 0, 3, 103);
        due("10 by 6", x.group(0, 0, 4), 101666);
        DutyCase y = told("adjust export p-1+m;" + PLAIN);
        y.put(EXPORT, 0, 0, 0, 1, 999, 9);
        y.put(EXPORT, 0, 0, 0, 0, 1, 9);
        due("a thousandth", y.group(0, 0, 4), 1);
        y.put(EXPORT, 0, 0, 0, 1, 1, 9);
        due("less than a thousandth", y.group(0, 0, 4), 0);

        says("(All worths and differences are in thousandths so.)");
        DutyCase z = told(PLAIN);
        z.put(HOME, 0, 0, 0, 0, 2, 100);
        z.put(HOME, 0, 0, 0, 0, 1, 101);
        z.put(EXPORT, 0, 0, 0, 0, 7, 100);
        due("worth", z.worth(0, 0, 0, NONE), 100333);
        due("difference", z.difference(2, 1), 2331);
        due("difference by pairs", z.difference(2, 2), 0);
        due("worth by cost", z.worth(1, 0, 0, NONE), 110000);
    }

    private void worthIs(DutyCase x, int model, int level, int way, int by, int at) {
        String what = "model " + model + " level " + level + ": ";
        due(what + "way", x.found(0, model, level, 0), way);
        due(what + "model", x.found(0, model, level, 1), by);
        due(what + "level", x.found(0, model, level, 2), at);
    }

    private void worthOfItself() {
        says("WORTH of a FIRM, MODEL, LEVEL (and a MONTH): the first that can be:");
        DutyCase x = told(PLAIN);
        worthIs(x, 0, 0, 3, NONE, NONE);
        int other = x.put(HOME, 0, 1, 3, 0, 1, 100);
        worthIs(x, 0, 0, 2, 1, 3);
        int own = x.put(HOME, 0, 0, 3, 0, 1, 100);
        worthIs(x, 0, 0, 1, 0, 3);
        x.drop(own);
        worthIs(x, 0, 0, 2, 1, 3);
        x.price(other, 99);
        worthIs(x, 0, 0, 3, NONE, NONE);

        says("1 of IN ones of the same MODEL at the LEVEL nearest to it (of two alike the lower)");
        DutyCase y = told(PLAIN);
        y.put(HOME, 0, 0, 3, 0, 1, 130);
        worthIs(y, 0, 0, 1, 0, 3);
        y.put(HOME, 0, 0, 1, 0, 1, 110);
        worthIs(y, 0, 0, 1, 0, 1);
        worthIs(y, 0, 1, 1, 0, 1);
        worthIs(y, 0, 2, 1, 0, 1);
        worthIs(y, 0, 3, 1, 0, 3);
        due("the lower one's", y.worth(0, 0, 2, NONE), 110000);
        y.put(HOME, 0, 0, 0, 0, 1, 100);
        y.drop(1);
        worthIs(y, 0, 1, 1, 0, 0);
        worthIs(y, 0, 2, 1, 0, 3);
        y.put(HOME, 0, 0, 2, 0, 2, 90);
        worthIs(y, 0, 2, 1, 0, 3);
        due("out ones are none", y.worth(0, 0, 2, NONE), 130000);
        y.put(THIRD, 0, 0, 2, 0, 2, 190);
        y.put(HOME, 1, 0, 2, 0, 2, 190);
        worthIs(y, 0, 2, 1, 0, 3);
        for (int model = 0; model < 6; model++) {
            DutyCase z = told(SIX);
            z.put(HOME, 0, model, 0, 0, 1, 9);
            worthIs(z, model, 1, 1, model, 0);
            z.drop(0);
            z.put(HOME, 0, model, 3, 0, 1, 9);
            worthIs(z, model, 1, 1, model, 3);
        }
    }

    private void worthOfAnother() {
        says("2 likewise of another MODEL: the one with the nearest LIKENESS (of several the first) of those that have"
                + " IN ones and whose COST is apart from its own by no more than a fifth of its own COST");
        DutyCase x = told("model a 100 50 0;model b 79 50 0;model c 121 50 0;model d 80 40 0;model e 120 60 0;"
                + "model f 100 39 0;firm x;");
        worthIs(x, 0, 0, 3, NONE, NONE);
        int b = x.put(HOME, 0, 1, 0, 0, 1, 200);
        int c = x.put(HOME, 0, 2, 0, 0, 1, 200);
        worthIs(x, 0, 0, 3, NONE, NONE);
        x.put(HOME, 0, 5, 2, 0, 1, 200);
        worthIs(x, 0, 1, 2, 5, 2);
        int e = x.put(HOME, 0, 4, 3, 0, 1, 200);
        x.put(HOME, 0, 4, 1, 0, 1, 200);
        worthIs(x, 0, 2, 2, 4, 1);
        x.put(HOME, 0, 3, 0, 0, 1, 200);
        worthIs(x, 0, 2, 2, 3, 0);
        x.costs(0, 3, 79);
        worthIs(x, 0, 2, 2, 4, 1);
        x.costs(0, 1, 80);
        worthIs(x, 0, 2, 2, 1, 0);
        x.price(b, 79);
        worthIs(x, 0, 2, 2, 4, 1);
        x.costs(0, 2, 120);
        worthIs(x, 0, 2, 2, 2, 0);
        x.drop(c);
        x.costs(0, 0, 99);
        worthIs(x, 0, 2, 2, 5, 2);
        x.drop(e);
        likenesses();
        fifths();
    }

    /** Of likenesses 1, 2, 4, 7, 11 and 16 each one's nearest is the one ahead of it, where that has sales. */
    private void likenesses() {
        DutyCase x = told(SIX);
        x.put(HOME, 0, 0, 0, 0, 1, 9);
        worthIs(x, 5, 0, 2, 0, 0);
        for (int model = 1; model < 5; model++) {
            x.put(HOME, 0, model, 0, 0, 1, 9);
            worthIs(x, 5, 0, 2, model, 0);
        }
        x.drop(1);
        worthIs(x, 1, 0, 2, 0, 0);
        x.drop(0);
        worthIs(x, 1, 0, 2, 2, 0);
        worthIs(x, 0, 0, 2, 2, 0);
    }

    /** By no more than a fifth, also where five do not divide it. */
    private void fifths() {
        DutyCase x = told(PLAIN);
        x.put(HOME, 0, 1, 0, 0, 1, 9999);
        int[][] taken = {{104, 84, 2}, {104, 83, 3}, {104, 124, 2}, {104, 125, 3}, {105, 126, 2}, {105, 127, 3},
            {4, 4, 2}, {4, 5, 3}, {4, 3, 3}, {5, 6, 2}, {5, 4, 2}, {9999, 8000, 2}, {9999, 7999, 3}, {1, 9999, 3}};
        for (int[] row : taken) {
            x.costs(0, 0, row[0]);
            x.costs(0, 1, row[1]);
            due("the way with costs " + row[0] + " and " + row[1], x.found(0, 0, 0, 0), row[2]);
        }
    }

    private void worthOfCost() {
        says("3 none: 1000 times what COST and COST times PROFIT / 100 (that rounded down) are together.");
        DutyCase x = told(PLAIN);
        int[][] rows = {{100, 10, 110}, {109, 10, 119}, {110, 10, 121}, {9, 11, 9}, {10, 10, 11}, {1, 99, 1},
            {9999, 99, 19898}, {9999, 0, 9999}, {1, 0, 1}, {101, 99, 200}};
        for (int[] row : rows) {
            x.costs(0, 0, row[0]);
            x.set(PROFIT, row[1]);
            due("cost " + row[0] + " profit " + row[1], x.worth(0, 0, 0, NONE), row[2] * 1000L);
        }
        x.set(STEP, 9);
        due("no step comes to it", x.worth(0, 0, 3, NONE), 200000);
        due("nor a month", x.worth(0, 0, 3, 11), 200000);
    }

    private void worthMoreAndLess() {
        says("To 1 and 2 comes STEP for each LEVEL that this is above the one found (is taken off for each below)");
        DutyCase x = told("step 7;" + PLAIN);
        x.put(HOME, 0, 0, 1, 0, 1, 150);
        for (int level = 0; level < 4; level++) {
            due("1 at level " + level, x.worth(0, 0, level, NONE), 150000 + 7000 * (level - 1));
            due("2 at level " + level, x.worth(0, 1, level, NONE), 150000 + 7000 * (level - 1));
        }

        says("to 2 what its COST is above the other's (below: is taken off)");
        x.costs(0, 0, 120);
        due("less than the other's", x.worth(0, 1, 1, NONE), 130000);
        x.costs(0, 0, 90);
        due("more than the other's", x.worth(0, 1, 1, NONE), 160000);
        due("not to 1", x.worth(0, 0, 1, NONE), 150000);
        due("both", x.worth(0, 1, 3, NONE), 174000);

        says("0 at least.");
        x.set(STEP, 99);
        x.drop(0);
        x.put(HOME, 0, 0, 3, 0, 1, 199);
        due("a little", x.worth(0, 0, 1, NONE), 1000);
        x.price(1, 198);
        due("just nothing", x.worth(0, 0, 1, NONE), 0);
        x.price(1, 197);
        due("less than nothing", x.worth(0, 0, 1, NONE), 0);
        due("far less", x.worth(0, 0, 0, NONE), 0);
        x.costs(0, 0, 110);
        x.price(1, 209);
        due("by another, a little", x.worth(0, 1, 1, NONE), 1000);
        x.price(1, 207);
        due("by another, less than nothing", x.worth(0, 1, 1, NONE), 0);
    }

    private void worthByMonths() {
        says("BY MONTHS, the AVERAGE in 1 and 2 is of the SALES found that are of that MONTH, if there are any of that"
                + " MODEL, at the LEVEL found; else of all there (as without).");
        DutyCase x = told("step 5;" + PLAIN);
        x.put(HOME, 0, 0, 1, 0, 1, 120);
        x.put(HOME, 0, 0, 1, 11, 3, 140);
        x.put(HOME, 0, 0, 3, 6, 1, 180);
        x.put(HOME, 1, 0, 1, 6, 1, 199);
        due("as without", x.worth(0, 0, 1, NONE), 135000);
        due("month 0", x.worth(0, 0, 1, 0), 120000);
        due("month 11", x.worth(0, 0, 1, 11), 140000);
        due("none of month 1", x.worth(0, 0, 1, 1), 135000);
        due("of month 6 only at another level, of another firm", x.worth(0, 0, 1, 6), 135000);
        due("at level 2 with a step", x.worth(0, 0, 2, 11), 145000);
        due("by another model", x.worth(0, 1, 2, 11), 145000);
        due("by another model, none of that month", x.worth(0, 1, 0, 6), 130000);
        x.put(HOME, 0, 1, 0, 6, 1, 100);
        due("of month 6 of another model", x.worth(0, 0, 1, 6), 135000);
        x.put(HOME, 0, 0, 1, 11, 1, 160);
        x.put(HOME, 0, 0, 1, 11, 3, 180);
        due("several of month 11, rounded down", x.worth(0, 0, 1, 11), 160000);
        x.undo();
        x.undo();
        x.put(HOME, 0, 0, 1, 6, 1, 99);
        due("of month 6, below, not out", x.worth(0, 0, 1, 6), 99000);
        x.price(1, 99);
        due("of month 6, out", x.worth(0, 0, 1, 6), 120000);
        x.put(EXPORT, 0, 0, 1, 11, 1, 100);
        x.put(EXPORT, 0, 0, 1, 0, 1, 100);
        x.price(1, 140);
        due("not by months, as told", x.difference(6, 1), 27800);
        x.set(BY_MONTHS, 1);
        due("by months, as told", x.difference(6, 1), 40000);
        due("by months, as told", x.difference(7, 1), 20000);
    }

    // ---- 3

    private void methods() {
        says("EXPORTS of a FIRM: its SALES of export.");
        DutyCase x = told(PLAIN);
        x.put(HOME, 0, 0, 0, 0, 1, 200);
        x.put(THIRD, 0, 0, 0, 0, 1, 200);
        x.put(EXPORT, 1, 0, 0, 0, 1, 200);
        due("no group of another market or firm", x.groups(0), 0);
        due("no value of another market or firm", x.value(0), 0);
        check.thrown(IllegalArgumentException.class, () -> x.match(0), "one at home");
        check.thrown(IllegalArgumentException.class, () -> x.match(1), "one of a third land");
        due("an export", x.match(2), NONE);

        says("METHOD 0: EXPORTS in GROUPS of one MODEL and LEVEL (BY MONTHS: of one MONTH, too): the DIFFERENCE is"
                + " WORTH less the GROUP's AVERAGE, times its MANY.");
        DutyCase y = fourExports();
        due("groups", y.groups(0), 3);
        due("difference, by an average rounded down", y.group(0, 0, 6), 29001);
        due("of another level", y.group(0, 1, 6), 10000);
        due("of another model", y.group(0, 2, 6), -10000);
        y.set(BY_MONTHS, 1);
        due("groups by months", y.groups(0), 4);
        due("of month 0", y.group(0, 0, 6), 20000);
        due("of month 1", y.group(0, 1, 6), 9000);
        fullGroups();

        says("METHOD 1: each EXPORT by itself: WORTH less 1000 times its NET, times MANY.");
        DutyCase z = fourExports();
        int[] differences = {20000, 9000, 10000, -10000};
        for (int sale = 0; sale < 4; sale++) {
            due("difference of " + sale, z.difference(sale, 1), differences[sale]);
        }
        due("together", z.sum(0, 1, false), 29000);
    }

    /** Without a base: each worth is 110000. */
    private static DutyCase fourExports() {
        DutyCase x = told(PLAIN);
        x.put(EXPORT, 0, 0, 0, 0, 2, 100);
        x.put(EXPORT, 0, 0, 0, 1, 1, 101);
        x.put(EXPORT, 0, 0, 1, 0, 1, 100);
        x.put(EXPORT, 0, 1, 0, 0, 1, 120);
        return x;
    }

    /** Forty groups, each of another level, month or model; and the one behind them. */
    private void fullGroups() {
        DutyCase x = told(PLAIN);
        for (int n = 0; n < 40; n++) {
            x.put(EXPORT, 0, n / 36, n % 3, n % 36 / 3, 1, 100 + n);
        }
        due("by levels and models", x.groups(0), 6);
        x.set(BY_MONTHS, 1);
        due("all for themselves", x.groups(0), 40);
        for (int n = 0; n < 40; n++) {
            due("difference of group " + n, x.group(0, n, 6), 10000 - 1000 * n);
        }
        check.thrown(NoSuchElementException.class, () -> x.group(0, 40, 6), "behind the last");
        due("sum", x.sum(0, 0, true), 55000);
    }

    private void methodOfPairs() {
        says("METHOD 2: each EXPORT with one SALE: of IN ones of the same MODEL that with the nearest LEVEL, then the"
                + " nearest MONTH (by numbers), then the nearest MANY, then the first");
        DutyCase x = told(PLAIN);
        x.put(EXPORT, 0, 0, 1, 11, 10, 100);
        due("without any", x.match(0), NONE);
        // Levels, months, manies of those put in, and which one is the match then.
        int[][] rows = {{3, 11, 10, 1}, {2, 0, 10, 2}, {2, 1, 999, 3}, {0, 1, 999, 3}, {0, 1, 20, 5}, {2, 1, 1, 6},
            {2, 1, 19, 6}, {0, 1, 2, 8}, {1, 0, 999, 9}, {1, 10, 11, 10}, {1, 10, 9, 10}, {1, 11, 999, 12},
            {1, 11, 10, 13}, {1, 11, 10, 13}};
        for (int[] row : rows) {
            x.put(HOME, 0, 0, row[0], row[1], row[2], 100);
            due("with level " + row[0] + " month " + row[1] + " many " + row[2], x.match(0), row[3]);
        }
        x.drop(13);
        due("the other alike", x.match(0), 14);
        x.drop(14);
        x.put(HOME, 0, 1, 1, 11, 10, 100);
        x.put(HOME, 1, 0, 1, 11, 10, 100);
        x.put(THIRD, 0, 0, 1, 11, 10, 100);
        due("not of another model, firm, market", x.match(0), 12);
        DutyCase y = told(PLAIN);
        y.put(EXPORT, 0, 0, 0, 0, 1, 100);
        y.put(HOME, 0, 0, 3, 11, 4, 100);
        y.put(HOME, 0, 0, 0, 0, 1, 99);
        due("not one that is out", y.match(0), 1);
        y.put(HOME, 0, 0, 3, 11, 1, 100);
        due("one below that is not", y.match(0), 2);
        DutyCase far = told(PLAIN);
        far.put(EXPORT, 0, 0, 0, 0, 999, 100);
        far.put(HOME, 0, 0, 0, 1, 999, 100);
        far.put(HOME, 0, 0, 0, 0, 1, 100);
        due("a month outweighs 998 pieces", far.match(0), 2);
        far.put(EXPORT, 0, 0, 1, 0, 999, 100);
        far.put(HOME, 0, 0, 1, 11, 200, 100);
        due("a level outweighs 11 months", far.match(3), 4);

        says("its NET and STEP for each LEVEL more or less as above, 0 at least, 1000 times, in place of WORTH");
        DutyCase z = told("step 99;" + PLAIN);
        z.put(EXPORT, 0, 0, 1, 0, 2, 50);
        z.put(HOME, 0, 0, 3, 0, 2, 199);
        due("two levels less", z.difference(0, 2), (1000 - 50000) * 2);
        z.price(1, 198);
        due("just nothing", z.difference(0, 2), -50000 * 2);
        z.price(1, 197);
        due("less than nothing", z.difference(0, 2), -50000 * 2);
        z.put(HOME, 0, 0, 0, 0, 2, 100);
        due("a level more", z.difference(0, 2), (199000 - 50000) * 2);
        z.put(HOME, 0, 0, 0, 0, 1, 500);
        due("one sale alone", z.difference(0, 2), (199000 - 50000) * 2);
        z.put(HOME, 0, 0, 1, 0, 2, 120);
        due("the same level", z.difference(0, 2), (120000 - 50000) * 2);

        says("without such a SALE as METHOD 1.");
        DutyCase w = fourExports();
        w.put(HOME, 0, 0, 0, 5, 1, 150);
        w.put(HOME, 0, 0, 0, 0, 1, 170);
        due("by another model", w.difference(3, 2), 40000);
        due("as method 1", w.difference(3, 1), 40000);
        w.set(BY_MONTHS, 1);
        due("by another model and months", w.difference(3, 2), 50000);
        w.drop(4);
        w.drop(5);
        due("by cost", w.difference(0, 2), 20000);
        due("by cost", w.difference(3, 2), -10000);
    }

    private void sums() {
        says("SUM of a FIRM: all its DIFFERENCES together; with ZEROING those below 0 are 0.");
        DutyCase x = fourExports();
        due("method 0", x.sum(0, 0, false), 29001);
        due("method 0, zeroing", x.sum(0, 0, true), 39001);
        due("method 1", x.sum(0, 1, false), 29000);
        due("method 1, zeroing", x.sum(0, 1, true), 39000);
        due("without exports", x.sum(1, 0, false), 0);
        x.price(3, 110);
        due("one of just 0", x.sum(0, 1, true), 39000);
        due("one of just 0", x.sum(0, 1, false), 39000);
        for (int sale = 0; sale < 4; sale++) {
            x.price(sale, 111);
        }
        due("all below", x.sum(0, 1, false), -5000);
        due("all below, zeroing", x.sum(0, 1, true), 0);

        says("VALUE: 1000 times NET and MANY of each EXPORT multiplied, together.");
        due("value", x.value(0), 555000);
        due("without exports", x.value(1), 0);
        DutyCase most = told("adjust export 0-9999*10;adjust home p;firm x;model a 1 0 0;");
        for (int n = 0; n < 40; n++) {
            most.put(EXPORT, 0, 0, n % 4, n % 12, 999, 9999);
        }
        due("the greatest of all", most.value(0), 40L * 999 * 99999 * 1000);
        due("and its sum", most.sum(0, 1, false), (1000L - 99999000L) * 999 * 40);
        due("and its margin", most.margin(0, 1, false), 0);
    }

    /** One export, without a base and without profit: its margin is by what its cost is above its net. */
    private static DutyCase oneExport(String adjust) {
        DutyCase x = told(adjust + "profit 0;" + PLAIN);
        x.put(EXPORT, 0, 0, 0, 0, 1, 100);
        return x;
    }

    private static int marginFor(DutyCase x, int cost, int price) {
        x.costs(0, 0, cost);
        x.price(0, price);
        return x.margin(0, 0, false);
    }

    private void margins() {
        says("MARGIN: 10000 times SUM by VALUE, rounded down, 0 at least, 99999 at most (99999 too, if VALUE is 0 and"
                + " SUM is not, 0 if neither is).");
        DutyCase x = oneExport("");
        due("1 by 99", marginFor(x, 100, 99), 101);
        due("2 by 98", marginFor(x, 100, 98), 204);
        due("nothing by 100", marginFor(x, 100, 100), 0);
        due("1 less by 101", marginFor(x, 100, 101), 0);
        due("9998 less by 9999", marginFor(x, 1, 9999), 0);
        due("1 by 9999", marginFor(x, 9999, 9998), 1);
        due("999 by 100", marginFor(x, 1099, 100), 99900);
        due("1000 by 100", marginFor(x, 1100, 100), 99999);
        due("9998 by 1", marginFor(x, 9999, 1), 99999);
        due("no exports", x.margin(1, 0, false), 0);
        DutyCase free = oneExport("step 99;adjust export p;");
        due("a net of 0", free.sale(0, 8), 0);
        due("a value of 0", free.margin(0, 0, false), 99999);
        free.put(HOME, 0, 0, 2, 0, 1, 198);
        due("neither is: by averages", free.margin(0, 0, false), 0);
        due("neither is: by each", free.margin(0, 1, true), 0);
        due("neither is: by pairs", free.margin(0, 2, false), 0);
        free.price(1, 199);
        due("a sum of 1", free.margin(0, 0, false), 99999);

        says("A FIRM that was SILENT has the greatest MARGIN of those that were not (0 without).");
        DutyCase y = told("profit 0;" + PLAIN);
        y.put(EXPORT, 0, 0, 0, 0, 1, 10);
        y.put(EXPORT, 1, 0, 0, 0, 1, 80);
        y.put(EXPORT, 2, 0, 0, 0, 1, 50);
        y.silent(0, true);
        due("less than its own", y.margin(0, 0, false), 10000);
        y.silent(3, true);
        due("of one without exports", y.margin(3, 1, true), 10000);
        y.silent(2, true);
        due("of those that were not", y.margin(0, 0, false), 2500);
        due("one that was not", y.margin(1, 0, false), 2500);
        y.silent(1, true);
        due("all were", y.margin(0, 0, false), 0);
        due("all were", y.margin(1, 0, false), 0);
        due("all were, as told", y.duty(1, 0), 0);
        y.silent(0, false);
        due("more than its own", y.margin(1, 2, true), 90000);
    }

    // ---- 4

    private void negligibleAre(int w, int x, int y, int z, int bits) {
        DutyCase c = told(PLAIN);
        int[] many = {w, x, y, z};
        for (int firm = 0; firm < 4; firm++) {
            for (int left = many[firm]; left > 0; left -= 500) {
                c.put(EXPORT, firm, firm % 2, left % 4, firm, Math.min(500, left), 50);
            }
        }
        for (int firm = 0; firm < 4; firm++) {
            due("firm " + firm + " of " + w + " " + x + " " + y + " " + z, c.negligible(firm), (bits >> firm & 1) == 1);
        }
    }

    private void negligible() {
        says("NEGLIGIBLE is a FIRM with EXPORTS whose MANY together are below 3 in a hundred of MANY of all EXPORTS of"
                + " all FIRMS; unless all such FIRMS together have more than 7 in a hundred.");
        negligibleAre(0, 0, 0, 0, 0);
        negligibleAre(1, 0, 0, 0, 0);
        negligibleAre(97, 3, 0, 0, 0);
        negligibleAre(98, 2, 0, 0, 2);
        negligibleAre(970, 30, 0, 0, 0);
        negligibleAre(971, 29, 0, 0, 2);
        negligibleAre(941, 29, 30, 0, 2);
        negligibleAre(930, 29, 29, 12, 14);
        negligibleAre(929, 29, 29, 13, 0);
        negligibleAre(20, 20, 930, 30, 3);
        negligibleAre(29, 930, 29, 12, 13);
        negligibleAre(29, 929, 29, 13, 0);
        negligibleAre(9671, 299, 0, 0, 2);
        negligibleAre(9668, 299, 0, 0, 2);
        negligibleAre(9667, 299, 0, 0, 0);
        negligibleAre(9667, 299, 1, 0, 6);
        negligibleAre(9300, 299, 299, 102, 14);
        negligibleAre(9299, 299, 299, 103, 0);
        DutyCase x = told(PLAIN);
        x.put(EXPORT, 0, 0, 0, 0, 98, 50);
        x.put(EXPORT, 1, 0, 0, 0, 2, 50);
        x.put(HOME, 1, 0, 0, 0, 900, 50);
        due("sales at home do not count", x.negligible(1), true);
        x.drop(0);
        due("those dropped do not", x.negligible(1), false);

        says("RATE: 0 of a FIRM that is NEGLIGIBLE, that has no EXPORTS, whose MARGIN is below 200; else its MARGIN.");
        DutyCase y = told("profit 0;" + PLAIN);
        y.put(EXPORT, 0, 0, 0, 0, 98, 50);
        int small = y.put(EXPORT, 1, 0, 0, 0, 2, 50);
        due("negligible", y.duty(1, 1), 0);
        due("its margin", y.duty(1, 0), 10000);
        y.put(EXPORT, 1, 0, 0, 1, 2, 50);
        due("not negligible", y.duty(1, 1), 10000);
        y.drop(small);
        y.drop(small + 1);
        y.silent(1, true);
        due("no exports, silent", y.duty(1, 1), 0);
        due("its margin", y.duty(1, 0), 10000);
        y.costs(0, 0, 9190);
        y.price(0, 9010);
        due("margin below 200", y.duty(0, 0), 199);
        due("its rate", y.duty(0, 1), 0);
        y.price(0, 9009);
        due("margin of 200", y.duty(0, 0), 200);
        due("its rate", y.duty(0, 1), 200);
    }

    private void injury() {
        says("INJURY of a FIRM: over EXPORTS of MODELS with a TARGET above 0: 1000 times what the TARGET is above NET,"
                + " times MANY, together (below 0 as well), times 10000 by VALUE of these, rounded down, 0 at least,"
                + " 99999 at most (as for MARGIN).");
        DutyCase x = told("model a 100 0 150;model b 100 0 0;model c 100 0 1100;firm x;firm y;");
        due("without exports", x.duty(0, 2), 0);
        x.put(EXPORT, 0, 1, 0, 0, 999, 9);
        due("a target of 0", x.duty(0, 2), 0);
        x.put(EXPORT, 0, 0, 0, 0, 10, 100);
        due("50 by 100", x.duty(0, 2), 5000);
        x.price(1, 99);
        due("51 by 99", x.duty(0, 2), 5151);
        x.price(1, 100);
        x.put(EXPORT, 0, 0, 3, 0, 5, 200);
        due("500 less 250 by 2000", x.duty(0, 2), 1250);
        x.price(2, 250);
        due("500 less 500", x.duty(0, 2), 0);
        x.price(2, 251);
        due("500 less 505", x.duty(0, 2), 0);
        x.put(HOME, 0, 0, 0, 0, 9, 10);
        x.put(EXPORT, 1, 0, 0, 0, 9, 149);
        due("at home and of others", x.duty(0, 2), 0);
        due("1 by 149", x.duty(1, 2), 67);
        x.drop(1);
        x.drop(2);
        x.put(EXPORT, 0, 2, 0, 0, 1, 101);
        due("999 by 101", x.duty(0, 2), 98910);
        x.price(5, 100);
        due("1000 by 100", x.duty(0, 2), 99999);
        DutyCase free = told("adjust export p;model a 100 0 1;firm x;sell export x a 0 0 1 7;");
        due("a value of 0 and a target of 1", free.duty(0, 2), 99999);
        DutyCase least = told("model a 100 0 1;firm x;sell export x a 0 0 1 1;");
        due("a target of 1, just met", least.duty(0, 2), 0);
    }

    private void duties() {
        says("DUTY: RATE; with LESSER, if it has EXPORTS of such MODELS, the lesser one of RATE and INJURY.");
        DutyCase x = told("profit 0;model a 150 0 120;model b 150 0 0;model c 110 0 1;firm x;");
        x.put(EXPORT, 0, 0, 0, 0, 1, 100);
        due("rate", x.duty(0, 1), 5000);
        due("injury", x.duty(0, 2), 2000);
        due("not lesser", x.duty(0, 3), 5000);
        x.set(LESSER, 1);
        due("injury is lesser", x.duty(0, 3), 2000);
        x.costs(0, 0, 119);
        due("rate is lesser", x.duty(0, 3), 1900);
        x.costs(0, 0, 120);
        due("both alike", x.duty(0, 3), 2000);
        x.price(0, 115);
        due("rate of 434", x.duty(0, 3), 434);
        x.drop(0);
        due("without exports", x.duty(0, 3), 0);
        x.put(EXPORT, 0, 1, 0, 0, 1, 100);
        due("without such models", x.duty(0, 3), 5000);
        x.put(EXPORT, 0, 2, 0, 0, 1, 100);
        due("rate of both", x.duty(0, 1), 3000);
        due("with such a model, an injury of 0", x.duty(0, 3), 0);

        says("OTHERS: of all FIRMS that were not SILENT with a RATE above 0: RATES times VALUES together by VALUES"
                + " together, rounded down; 0 without, and if VALUES together are 0.");
        due("no firm at all", new DutyCase().others(), 0);
        DutyCase y = told("profit 0;" + PLAIN);
        due("no exports", y.others(), 0);
        y.put(EXPORT, 0, 0, 0, 0, 2, 50);
        due("one", y.others(), 10000);
        y.put(EXPORT, 1, 0, 0, 0, 1, 80);
        due("1200000 by 180", y.others(), 6666);
        y.put(EXPORT, 2, 0, 0, 0, 9, 99);
        due("a rate of 0", y.others(), 6666);
        y.silent(0, true);
        due("a silent one", y.others(), 2500);
        y.silent(1, true);
        due("none but a rate of 0", y.others(), 0);
        y.silent(2, true);
        due("all silent", y.others(), 0);
        DutyCase free = oneExport("adjust export p;");
        due("its rate", free.duty(0, 1), 99999);
        due("values of 0", free.others(), 0);
        DutyCase least = oneExport("adjust export p-1;");
        due("the least value, the greatest rate", least.others(), 99000 + 999);
    }

    private void undertakingIs(DutyCase x, int cost, int price, int raise) {
        x.costs(0, 0, cost);
        x.price(0, price);
        due("with cost " + cost + " and price " + price, x.undertaking(0), raise);
    }

    private void undertakings() {
        says("UNDERTAKING: the least number from 0 to 9999 that, put to NET of each of its EXPORTS (not cut at 99999"
                + " again), makes the MARGIN (as it would be, were it not SILENT) fall below 200; none.");
        DutyCase x = oneExport("");
        undertakingIs(x, 100, 9999, 0);
        undertakingIs(x, 100, 99, 0);
        undertakingIs(x, 9190, 9010, 0);
        undertakingIs(x, 9190, 9009, 1);
        undertakingIs(x, 102, 100, 1);
        undertakingIs(x, 102, 99, 2);
        undertakingIs(x, 9999, 1, 9802);
        x.silent(0, true);
        undertakingIs(x, 102, 99, 2);
        x.silent(0, false);
        DutyCase free = oneExport("adjust export p;");
        // From a net of 0, a cost and profit of n is met below 2 in a hundred from n by 1.02 on.
        undertakingIs(free, 1, 5, 1);
        undertakingIs(free, 9999, 5, 9803);
        free.set(PROFIT, 1);
        undertakingIs(free, 9999, 5, 9901);
        free.set(PROFIT, 2);
        undertakingIs(free, 9998, 5, 9998);
        undertakingIs(free, 9999, 5, 9999);
        free.set(PROFIT, 3);
        undertakingIs(free, 9902, 5, NONE);
        undertakingIs(free, 9999, 5, NONE);
        free.put(HOME, 0, 0, 3, 0, 1, 9999);
        free.costs(0, 0, 1);
        free.set(STEP, 99);
        due("a worth that is taken down", free.undertaking(0), 9512);
        // A cost of 1999 and three levels above a net of 99999: 102295 are to be met.
        DutyCase most = told("adjust home 0-9999*10;adjust export 0-9999*10;step 99;model a 9999 0 0;model b 8000 0 0;"
                + "firm x;sell home x b 0 0 1 9999;sell export x a 3 0 1 9999;");
        due("the greatest net", most.sale(1, 8), 99999);
        due("its worth", most.worth(0, 0, 3, NONE), 102295000);
        due("not cut again", most.undertaking(0), 291);
    }

    private void pickedAre(int many, int price, int others, int otherPrice, int bits) {
        DutyCase x = told(PLAIN);
        x.put(EXPORT, 0, 0, 0, 0, many, price);
        x.put(EXPORT, 0, 1, 3, 11, others, otherPrice);
        due(many + " at " + price + ", " + others + " at " + otherPrice, x.picked(0), bits);
    }

    private void picked() {
        says("PICKED of a FIRM: MONTHS in which it has EXPORTS and also has some in others, with 100 times AVERAGE of"
                + " these EXPORTS below 98 times AVERAGE of all others of it.");
        due("no exports", told(PLAIN).picked(0), 0);
        pickedAre(1, 98, 1, 100, 0);
        pickedAre(999, 98, 1, 100, 0);
        pickedAre(1, 97, 999, 100, 1);
        pickedAre(1, 9799, 1, 9999, 1);
        pickedAre(1, 9800, 1, 9999, 0);
        pickedAre(1, 100, 1, 98, 0);
        pickedAre(1, 100, 1, 97, 1 << 11);
        DutyCase x = told(PLAIN);
        x.put(EXPORT, 0, 0, 0, 5, 1, 1);
        x.put(EXPORT, 0, 1, 1, 5, 1, 100);
        due("all in one month", x.picked(0), 0);
        x.put(HOME, 0, 0, 0, 6, 1, 200);
        x.put(EXPORT, 1, 0, 0, 6, 1, 200);
        due("others at home and of others", x.picked(0), 0);
        x.put(EXPORT, 0, 0, 0, 6, 1, 200);
        due("some in others", x.picked(0), 1 << 5);
        x.drop(4);
        due("those dropped are none", x.picked(0), 0);
        DutyCase y = told(PLAIN);
        y.put(EXPORT, 0, 0, 0, 0, 1, 98);
        y.put(EXPORT, 0, 0, 0, 1, 999, 100);
        y.put(EXPORT, 0, 0, 0, 2, 1, 101);
        due("by 100.001", y.picked(0), 1);
        y.put(EXPORT, 0, 0, 0, 3, 999, 100);
        due("by 100.0005, rounded down", y.picked(0), 0);
        y.put(EXPORT, 0, 0, 0, 0, 3, 102);
        due("all of that month", y.picked(0), 0);
        y.put(EXPORT, 0, 0, 0, 0, 5, 94);
        // 98 and thrice 102 and five times 94 are 97.111 on the average.
        due("all of that month", y.picked(0), 1);
        DutyCase all = told(PLAIN);
        for (int month = 0; month < 12; month++) {
            all.put(EXPORT, 0, 0, 0, month, 1, month < 11 ? 10 : 999);
        }
        due("eleven of twelve", all.picked(0), (1 << 11) - 1);
    }

    private void deposits() {
        says("DEPOSIT of an EXPORT: RATE times NET times MANY by 10, rounded down.");
        DutyCase x = oneExport("");
        x.price(0, 97);
        due("309 times 97 by 10", x.collected(0, false), 2997);
        x.price(0, 99);
        due("a rate of 0", x.collected(0, false), 0);
        due("a net of 0", oneExport("adjust export p;").collected(0, false), 0);
        DutyCase most = told("model a 9999 0 0;firm x;sell export x a 0 0 999 909;");
        due("the greatest", most.collected(0, false), 99999L * 909 * 999 / 10);

        says("OWED: its DIFFERENCE by METHOD 1 (METHOD 2, if that is told), 0 at least.");
        DutyCase y = told("profit 0;" + PLAIN);
        y.put(EXPORT, 0, 0, 0, 0, 3, 99);
        due("1 thrice", y.collected(0, true), 3000);
        y.price(0, 100);
        due("just nothing", y.collected(0, true), 0);
        y.price(0, 101);
        due("less than nothing", y.collected(0, true), 0);
        y.put(HOME, 0, 0, 0, 0, 1, 151);
        y.put(HOME, 0, 0, 0, 1, 1, 201);
        due("method 0 told: by method 1", y.collected(0, true), 225000);
        y.set(METHOD, 1);
        due("method 1 told", y.collected(0, true), 225000);
        y.set(METHOD, 2);
        due("method 2 told", y.collected(0, true), 150000);
        y.price(1, 100);
        due("method 2, less than nothing", y.collected(0, true), 0);

        says("BACK of a FIRM: all DEPOSITS less all that is OWED.");
        DutyCase z = told("profit 0;" + PLAIN);
        due("without exports", z.back(0), 0);
        z.put(EXPORT, 0, 0, 0, 0, 1, 50);
        due("just as much", z.back(0), 0);
        z.put(EXPORT, 0, 0, 0, 0, 1, 125);
        // 25 by 175 is a rate of 1428: 7140 and 17850 are deposited, 50000 owed.
        due("less", z.back(0), 7140 + 17850 - 50000);
        z.silent(0, true);
        due("no rate", z.back(0), -50000);
        z.put(EXPORT, 1, 0, 0, 0, 1, 50);
        due("another's rate", z.back(0), 50000 + 125000 - 50000);
    }

    private void weights() {
        says("WEIGHT of a SALE: by how much MARGIN of its FIRM (as if not SILENT) would be more without it (below 0:"
                + " less).");
        DutyCase x = told("profit 0;" + PLAIN);
        x.put(EXPORT, 0, 0, 0, 0, 1, 50);
        due("the only one", x.weight(0), -10000);
        x.put(EXPORT, 0, 0, 0, 0, 1, 125);
        due("without it more", x.weight(1), 10000 - 1428);
        due("without it less", x.weight(0), 0 - 1428);
        x.put(HOME, 0, 1, 3, 0, 1, 99);
        due("one that is out", x.weight(2), 0);
        x.put(HOME, 0, 0, 0, 0, 1, 200);
        due("one at home", x.weight(3), 1428 - 12857);
        x.silent(0, true);
        due("as if not silent", x.weight(3), 1428 - 12857);
        x.put(EXPORT, 1, 0, 0, 0, 1, 10);
        due("of its firm alone", x.weight(5 - 1), -90000);
        due("of its firm alone", x.weight(3), 1428 - 12857);
    }

    private void acts() {
        says("ACTS (the latest 16 are kept): a SALE is put in, dropped (SALES keep their numbers; it counts no more),"
                + " its PRICE is told, a COST is told, METHOD (0 at first), ZEROING, LESSER, BY MONTHS (each not at"
                + " first), PROFIT, STEP are told, a FIRM is SILENT or not.");
        DutyCase x = told(PLAIN);
        for (int what = 4; what <= 7; what++) {
            due("at first " + what, x.count(what), 0);
        }
        for (int act = 1; act <= 11; act++) {
            doAct(x, act);
            due("acts behind act " + act, x.count(10), act);
        }
        x.put(EXPORT, 0, 0, 0, 0, 1, 77);
        due("numbers are kept", x.sale(1, 6), 77);
        due("it counts no more", x.count(3), 1);
        DutyCase y = new DutyCase();
        for (int n = 1; n <= 40; n++) {
            y.set(STEP, n);
            due("kept behind " + n, y.count(10), Math.min(n, 16));
        }
        for (int n = 15; n >= 0; n--) {
            due("left", y.undo(), n);
            due("step", y.count(9), 24 + n);
        }
        due("the 17th", y.undo(), NONE);
        due("it stays", y.count(9), 24);

        says("Each is one also where nothing changes.");
        DutyCase z = told(PLAIN);
        int sale = z.put(EXPORT, 0, 0, 0, 0, 1, 50);
        z.price(sale, 50);
        z.costs(0, 0, 100);
        for (int what = 0; what < 6; what++) {
            z.set(what, what == PROFIT ? 10 : 0);
        }
        z.silent(0, false);
        due("acts", z.count(10), 10);
        for (int left = 9; left >= 1; left--) {
            due("undone", z.undo(), left);
            due("the sale is there", z.count(3), 1);
        }
        due("undone", z.undo(), 0);
        due("the sale is not", z.count(2), 0);

        says("UNDONE: all that is as ahead of it.");
        for (int act = 1; act <= 11; act++) {
            DutyCase one = withActs(act - 1);
            DutyCase other = withActs(act);
            due("undone act " + act, other.undo(), act - 1);
            due("all as ahead of act " + act, State.of(other).equals(State.of(one)), true);
        }
        DutyCase again = told(PLAIN);
        again.put(EXPORT, 0, 0, 0, 0, 1, 50);
        again.undo();
        due("a number is free again", again.put(HOME, 1, 1, 1, 1, 2, 60), 0);
        due("and another's", again.sale(0, 6), 60);
        again.drop(0);
        again.costs(1, 1, 30);
        again.undo();
        again.undo();
        due("back again, and as it was", again.sale(0, 8) + again.cost(1, 1), 160);
    }

    private static DutyCase withActs(int acts) {
        DutyCase x = told("adjust export c/10;" + PLAIN);
        for (int act = 1; act <= acts; act++) {
            doAct(x, act);
        }
        return x;
    }

    private static void doAct(DutyCase x, int act) {
        switch (act) {
            case 1: x.put(EXPORT, 0, 0, 0, 0, 1, 50); break;
            case 2: x.price(0, 51); break;
            case 3: x.costs(0, 0, 200); break;
            case 4: x.silent(1, true); break;
            case 5: x.drop(0); break;
            default: x.set(act - 6, act == 10 ? 11 : 1); break;
        }
    }

    private void writtenIs(DutyCase x, int firm, String want) {
        due("the length of '" + want + "'", x.write(firm), want.length());
        due("bytes", x.count(11), want.length());
        for (int k = 0; k < want.length(); k++) {
            due("byte " + k + " of '" + want + "'", x.octet(k), want.charAt(k));
        }
        due("behind '" + want + "'", x.octet(want.length()), NONE);
    }

    private void written() {
        says("WRITTEN is a FIRM: its NAME, a blank, DUTY by 100 with two digits behind the point (3.07), %, if it was"
                + " SILENT a blank and silent, if it is NEGLIGIBLE a blank and negligible.");
        DutyCase x = told("profit 0;model a 100 0 0;firm abcdef;firm z;");
        writtenIs(x, 0, "abcdef 0.00%");
        writtenIs(x, 1, "z 0.00%");
        x.put(EXPORT, 0, 0, 0, 0, 1, 100);
        int[][] rows = {{102, 100, 200}, {9190, 9010, 0}, {1050, 1000, 500}, {1005, 960, 468}, {1100, 1000, 1000},
            {1099, 1000, 990}, {2000, 1000, 10000}, {1999, 1000, 9990}, {1101, 100, 99999}, {1031, 1000, 310}};
        for (int[] row : rows) {
            x.costs(0, 0, row[0]);
            x.price(0, row[1]);
            String units = String.valueOf(row[2] / 100);
            String parts = String.valueOf(100 + row[2] % 100).substring(1);
            writtenIs(x, 0, "abcdef " + units + "." + parts + "%");
        }
        x.costs(0, 0, 9650);
        x.price(0, 9362);
        writtenIs(x, 0, "abcdef 3.07%");
        x.silent(1, true);
        writtenIs(x, 1, "z 0.00% silent");
        x.put(EXPORT, 1, 0, 0, 0, 1, 9);
        writtenIs(x, 1, "z 3.07% silent");
        x.put(EXPORT, 0, 0, 0, 0, 99, 9362);
        writtenIs(x, 1, "z 0.00% silent negligible");
        x.silent(1, false);
        writtenIs(x, 1, "z 0.00% negligible");
        x.silent(0, true);
        writtenIs(x, 0, "abcdef 999.99% silent");
        DutyCase y = told("profit 0;model a 100 0 0;firm w;firm abcdef;silent abcdef;sell export w a 0 0 98 90;"
                + "sell export abcdef a 0 0 2 90;");
        writtenIs(y, 1, "abcdef 0.00% silent negligible");
    }

    // ---- exceptions

    private void exceptions() {
        says("Of several exceptions the one told first is thrown");
        severalWrong();
        says("a call that throws changes nothing but the TAPE, where it is used up, and fault(), where a text is read.");
        wrongTextChangesNothing();
        fullPutChangesNothing();
        says("IndexOutOfBoundsException: there is no such MODEL, FIRM, SALE (one that was dropped is none).");
        noSuchFirm();
        noSuchModel();
        noSuchSale();
        says("IllegalArgumentException: a number is none (MARKETS: 0 home, 1 export, 2 third)");
        numberIsNone();
        says("a text is wrong.");
        DutyCase wrong = Refusals.busy();
        wrong.end(6);
        check.thrown(IllegalArgumentException.class, wrong::read, "a text without its end");
        says("NoSuchElementException: there is none such, another what.");
        anotherWhat();
        says("IllegalStateException: it cannot be.");
        withoutExports();
        says("At first there is none of all.");
        DutyCase x = new DutyCase();
        for (int what : new int[] {0, 1, 2, 3, 10, 11, 12}) {
            due("at first count " + what, x.count(what), 0);
        }
        check.thrown(IndexOutOfBoundsException.class, () -> x.name(false, 0, 0), "a model");
        check.thrown(IndexOutOfBoundsException.class, () -> x.name(true, 0, 0), "a firm");
        check.thrown(IndexOutOfBoundsException.class, () -> x.sale(0, 0), "a sale");
        due("an act", x.undo(), NONE);
        due("a byte written", x.octet(0), NONE);
        due("a byte on the tape", x.end(1), false);
    }

    private void withoutExports() {
        DutyCase x = Refusals.busy();
        DutyCase y = Refusals.busy();
        due("with one export", x.undertaking(1) != NONE, true);
        x.drop(5);
        y.drop(5);
        check.thrown(IllegalStateException.class, () -> x.undertaking(1), "undertaking without exports");
        due("fault", x.fault(), y.fault());
        refusals.sameState("undertaking without exports", x, y);
    }

    private void severalWrong() {
        Class<IndexOutOfBoundsException> index = IndexOutOfBoundsException.class;
        refusals.refused(index, "model", x -> x.model(2, 3));
        refusals.refused(index, "sale", x -> x.sale(8, 11));
        refusals.refused(index, "put, firm", x -> x.put(3, 2, 0, 4, 12, 0, 0));
        refusals.refused(index, "put, model", x -> x.put(3, 0, 2, 4, 12, 0, 0));
        refusals.refused(index, "price", x -> x.price(8, 0));
        refusals.refused(index, "price of one dropped", x -> x.price(6, 0));
        refusals.refused(index, "costs, firm", x -> x.costs(2, 0, 0));
        refusals.refused(index, "costs, model", x -> x.costs(0, 2, 0));
        refusals.refused(NoSuchElementException.class, "set", x -> x.set(6, -1));
        refusals.refused(index, "below, firm", x -> x.below(2, 0, 3));
        refusals.refused(index, "below, model", x -> x.below(0, 2, 3));
        refusals.refused(index, "worth, firm", x -> x.worth(2, 0, 4, 12));
        refusals.refused(index, "worth, model", x -> x.worth(0, 2, 4, 12));
        refusals.refused(index, "found, firm", x -> x.found(2, 0, 4, 3));
        refusals.refused(index, "found, model", x -> x.found(0, 2, 4, 3));
        refusals.refused(IllegalArgumentException.class, "found, level", x -> x.found(0, 0, 4, 3));
        refusals.refused(index, "difference", x -> x.difference(8, 0));
        refusals.refused(index, "group", x -> x.group(2, 99, 7));
        refusals.refused(index, "sum", x -> x.sum(2, 3, true));
        refusals.refused(index, "margin", x -> x.margin(2, 3, true));
        refusals.refused(index, "duty", x -> x.duty(2, 4));
        refusals.refused(index, "method", x -> x.method(2, 2));
        DutyCase full = told(PLAIN);
        for (int n = 0; n < 40; n++) {
            full.put(n % 3, 0, 0, 0, 0, 1, 1);
        }
        check.thrown(index, () -> full.put(0, 4, 0, 4, 0, 1, 1), "put of a firm that is none to 40");
        check.thrown(IllegalArgumentException.class, () -> full.put(0, 0, 0, 4, 0, 1, 1), "put of a wrong one to 40");
        check.thrown(IllegalStateException.class, () -> full.put(0, 0, 0, 0, 0, 1, 1), "put to 40");
    }

    private void wrongTextChangesNothing() {
        String[] texts = {"firm", "model a 1 1 1;firm x;sell export x a 0 0 1 1;step 5;profit 6;adjust export 1;x",
            "firm x;silent x;model b 9 9 9;cost x b 8;firm x;", "#", "adjust home ((((((((1))))))));"};
        int[] faults = {4, 77, 46, 0, 18};
        for (int k = 0; k < texts.length; k++) {
            DutyCase x = Refusals.busy();
            DutyCase y = Refusals.busy();
            x.end(0);
            y.end(0);
            Check.end(x, texts[k]);
            check.thrown(IllegalArgumentException.class, x::read, texts[k]);
            due("fault of " + texts[k], x.fault(), faults[k]);
            due("fault of the other", y.fault(), 12);
            due("the tape is used up", x.end(1), false);
            refusals.sameState(texts[k], x, y);
        }
    }

    private void fullPutChangesNothing() {
        DutyCase x = told(PLAIN);
        for (int n = 0; n < 40; n++) {
            x.put(n % 3, n % 4, n % 2, 0, 0, 1, n + 1);
        }
        long value = x.value(0);
        check.thrown(IllegalStateException.class, () -> x.put(EXPORT, 0, 0, 0, 0, 1, 9999), "the 41st");
        due("sales", x.count(2), 40);
        due("value", x.value(0), value);
        due("the last one", x.sale(39, 6), 40);
        due("acts", x.count(10), 16);
        due("undone", x.undo(), 15);
        due("the last one is gone", x.count(2), 39);
    }

    private void noSuchFirm() {
        Class<IndexOutOfBoundsException> index = IndexOutOfBoundsException.class;
        refusals.bounds(index, "name of firm", 0, 1, (x, i) -> x.name(true, i, 0));
        refusals.bounds(index, "cost, firm", 0, 1, (x, i) -> x.cost(i, 0));
        refusals.bounds(index, "put, firm", 0, 1, (x, i) -> x.put(0, i, 0, 0, 0, 1, 1));
        refusals.bounds(index, "costs, firm", 0, 1, (x, i) -> x.costs(i, 0, 1));
        refusals.bounds(index, "silent", 0, 1, (x, i) -> x.silent(i, true));
        refusals.bounds(index, "base", 0, 1, (x, i) -> x.base(i));
        refusals.bounds(index, "below, firm", 0, 1, (x, i) -> x.below(i, 0, 0));
        refusals.bounds(index, "worth, firm", 0, 1, (x, i) -> x.worth(i, 0, 0, 0));
        refusals.bounds(index, "found, firm", 0, 1, (x, i) -> x.found(i, 0, 0, 0));
        refusals.bounds(index, "groups", 0, 1, (x, i) -> x.groups(i));
        refusals.bounds(index, "group", 0, 1, (x, i) -> x.group(i, 0, 0));
        refusals.bounds(index, "sum", 0, 1, (x, i) -> x.sum(i, 0, false));
        refusals.bounds(index, "value", 0, 1, (x, i) -> x.value(i));
        refusals.bounds(index, "margin", 0, 1, (x, i) -> x.margin(i, 0, false));
        refusals.bounds(index, "negligible", 0, 1, (x, i) -> x.negligible(i));
        refusals.bounds(index, "duty", 0, 1, (x, i) -> x.duty(i, 0));
        refusals.bounds(index, "method", 0, 1, (x, i) -> x.method(i, 0));
        refusals.bounds(index, "undertaking", 0, 1, (x, i) -> x.undertaking(i));
        refusals.bounds(index, "picked", 0, 1, (x, i) -> x.picked(i));
        refusals.bounds(index, "back", 0, 1, (x, i) -> x.back(i));
        refusals.bounds(index, "heaviest", 0, 1, (x, i) -> x.heaviest(i, false));
        refusals.bounds(index, "write", 0, 1, (x, i) -> x.write(i));
    }

    private void noSuchModel() {
        Class<IndexOutOfBoundsException> index = IndexOutOfBoundsException.class;
        refusals.bounds(index, "name of model", 0, 1, (x, i) -> x.name(false, i, 0));
        refusals.bounds(index, "model", 0, 1, (x, i) -> x.model(i, 0));
        refusals.bounds(index, "cost, model", 0, 1, (x, i) -> x.cost(0, i));
        refusals.bounds(index, "put, model", 0, 1, (x, i) -> x.put(0, 0, i, 0, 0, 1, 1));
        refusals.bounds(index, "costs, model", 0, 1, (x, i) -> x.costs(0, i, 1));
        refusals.bounds(index, "below, model", 0, 1, (x, i) -> x.below(0, i, 0));
        refusals.bounds(index, "worth, model", 0, 1, (x, i) -> x.worth(0, i, 0, 0));
        refusals.bounds(index, "found, model", 0, 1, (x, i) -> x.found(0, i, 0, 0));
    }

    private void noSuchSale() {
        Class<IndexOutOfBoundsException> index = IndexOutOfBoundsException.class;
        Refusals.Numbered drop = (x, i) -> {
            x.drop(i);
            return null;
        };
        Refusals.Numbered[] anySale = {(x, i) -> x.sale(i, 0), drop, (x, i) -> x.price(i, 1), (x, i) -> x.weight(i)};
        for (Refusals.Numbered call : anySale) {
            refusals.bounds(index, "a sale", 0, 7, call);
            refusals.refused(index, "one dropped", x -> call.on(x, 6));
        }
        Refusals.Numbered[] anExport = {(x, i) -> x.match(i), (x, i) -> x.difference(i, 1), (x, i) -> x.collected(i, false),
            (x, i) -> x.collected(i, true)};
        for (Refusals.Numbered call : anExport) {
            for (int sale : new int[] {-1, 8, 6, Integer.MIN_VALUE, Integer.MAX_VALUE}) {
                refusals.refused(index, "export " + sale, x -> call.on(x, sale));
            }
        }
    }

    private void numberIsNone() {
        Class<IllegalArgumentException> number = IllegalArgumentException.class;
        refusals.bounds(number, "put, market", 0, 2, (x, n) -> x.put(n, 0, 0, 0, 0, 1, 1));
        for (int market = 0; market < 3; market++) {
            DutyCase x = told("adjust home 1;adjust export 2;adjust third 3;" + PLAIN);
            due("off of market " + market, x.sale(x.put(market, 0, 0, 0, 0, 1, 9), 7), market + 1);
        }
        refusals.bounds(number, "worth, level", 0, 3, (x, n) -> x.worth(0, 0, n, 0));
        refusals.bounds(number, "found, level", 0, 3, (x, n) -> x.found(0, 0, n, 0));
        refusals.bounds(number, "sum, method", 0, 2, (x, n) -> x.sum(0, n, true));
    }

    private void anotherWhat() {
        Class<NoSuchElementException> none = NoSuchElementException.class;
        refusals.bounds(none, "group, k", 0, 2, (x, k) -> x.group(0, k, 0));
        refusals.bounds(none, "group, what", 0, 6, (x, what) -> x.group(0, 0, what));
        refusals.bounds(none, "model", 0, 2, (x, what) -> x.model(0, what));
        refusals.bounds(none, "set", 0, 5, (x, what) -> x.set(what, 1));
    }

    // ---- the interface's heads

    private void heads() throws IOException {
        String source = Files.readString(Path.of("src/main/java/DutyCase.java"));
        says("Ahead of the calls `put`, `drop`, `price`, `costs`, `set`, `silent`, `undo` the interface says: ---- acts.");
        headIs(source, "// ---- acts\n", "put", "drop", "price", "costs", "set", "silent", "undo");
        says("Ahead of the calls `base`, `below`, `worth`, `found`, `match` the interface says: ---- worth.");
        headIs(source, "// ---- worth\n", "base", "below", "worth", "found", "match");
        says("Ahead of the calls `difference`, `groups`, `group`, `sum`, `value`, `margin` the interface says:"
                + " ---- margins.");
        headIs(source, "// ---- margins\n", "difference", "groups", "group", "sum", "value", "margin");
        says("Ahead of the calls `negligible`, `duty`, `others`, `method`, `undertaking`, `picked`, `collected`, `back`,"
                + " `weight`, `heaviest`, `ranked`, `write`, `octet`, `count` the interface says: ---- duties, by METHOD"
                + " and ZEROING as told.");
        headIs(source, "// ---- duties, by METHOD and ZEROING as told\n", "negligible", "duty", "others", "method",
                "undertaking", "picked", "collected", "back", "weight", "heaviest", "ranked", "write", "octet", "count");
        asTold();
    }

    private void headIs(String source, String head, String... calls) {
        int from = source.indexOf(head);
        due("the head", from >= 0, true);
        int to = source.indexOf("// ----", from + head.length());
        for (String call : calls) {
            int at = source.indexOf(" " + call + "(", source.indexOf("public ", from));
            due("the head's being ahead of " + call, at > from && at < to, true);
        }
    }

    /** A worth of 100; exports of 50 and 150 at one level, of 90 at another, paired with 80 and 120 at home. */
    private void asTold() {
        DutyCase x = told("model a 70 0 0;firm x;firm y;sell home x a 0 0 1 80;sell home x a 0 1 1 120;"
                + "sell export x a 0 0 1 50;sell export x a 0 1 1 150;sell export x a 1 1 1 90;sell export y a 0 0 1 70;");
        // By method and zeroing: differences of 0 and 10; 50, -50 and 10; 30, -30 and 30; a value of 290.
        int[][] margins = {{344, 344}, {344, 2068}, {1034, 2068}};
        for (int method = 0; method < 3; method++) {
            for (int zeroing = 0; zeroing < 2; zeroing++) {
                x.set(METHOD, method);
                x.set(ZEROING, zeroing);
                due("margin by " + method + " " + zeroing, x.duty(0, 0), margins[method][zeroing]);
            }
        }
        due("undertaking by 2 and zeroing", x.undertaking(0), 27);
        due("others by 2 and zeroing", x.others(), (2068 * 290 + 1000 * 70) / 360);
        due("weight by 2 and zeroing", x.weight(4), 30 * 10000 / 200 - 2068);
        x.set(ZEROING, 0);
        due("undertaking by 2", x.undertaking(0), 8);
        due("weight by 2", x.weight(4), 0 - 1034);
        due("least by 2", x.heaviest(0, true), 1);
        due("heaviest by 2", x.heaviest(0, false), 3);
        x.set(METHOD, 0);
        due("undertaking by 0", x.undertaking(0), 2);
        due("others by 0", x.others(), (344 * 290 + 1000 * 70) / 360);
        due("ranked by 0", x.ranked(0), 1);
        x.set(METHOD, 2);
        due("ranked by 2", x.ranked(0), 0);
    }
}
