import java.util.ArrayList;
import java.util.List;
import java.util.NoSuchElementException;

/** A method for each promise of the document, its answers worked out by hand. */
public final class DutyCasePromisesTest {
    private static final Class<IndexOutOfBoundsException> NO_SUCH = IndexOutOfBoundsException.class;
    private static final Class<IllegalArgumentException> NO_NUMBER = IllegalArgumentException.class;
    private static final Class<NoSuchElementException> NO_WHAT = NoSuchElementException.class;
    private static final Class<IllegalStateException> CANNOT_BE = IllegalStateException.class;
    private static final int NONE = DutyCase.NONE;

    private static final String CASE = "model aa 100 5 150;model bb 110 7 0;model cc 130 6 0;firm xy;firm z;"
            + "step 4;profit 25;"
            + "sell home xy aa 1 2 10 120;sell home xy aa 3 2 30 140;sell home xy aa 1 5 10 130;"
            + "sell export xy aa 2 2 10 100;sell export xy bb 2 3 5 90;sell export z cc 0 0 5 150;";
    /** Two models of nothing special and four firms, for sales put in by the test. */
    private static final String EMPTY = "model a 100 0 0;model b 100 0 0;firm w;firm x;firm y;firm z;";

    private final Check check = new Check();

    public static void main(String[] args) {
        DutyCasePromisesTest t = new DutyCasePromisesTest();
        t.newObject();
        t.feed();
        t.end();
        t.read();
        t.readInPlaceOfAll();
        t.fault();
        t.faultsOfNamesAndLimits();
        t.faultsOfSums();
        t.name();
        t.model();
        t.cost();
        t.sale();
        t.off();
        t.put();
        t.drop();
        t.price();
        t.costs();
        t.set();
        t.silent();
        t.undo();
        t.undoEach();
        t.base();
        t.below();
        t.worth();
        t.worthOfAnotherModel();
        t.found();
        t.match();
        t.difference();
        t.groups();
        t.group();
        t.sum();
        t.value();
        t.margin();
        t.negligible();
        t.duty();
        t.others();
        t.method();
        t.undertaking();
        t.picked();
        t.collected();
        t.back();
        t.weight();
        t.heaviest();
        t.ranked();
        t.write();
        t.octet();
        t.count();
        t.check.finish();
    }

    private void due(String what, long got, long want) {
        check.due(what, got, want);
    }

    private void due(String what, boolean got, boolean want) {
        check.due(what, got, want);
    }

    private static DutyCase told(String text) {
        return Check.told(text);
    }

    // 1
    private void newObject() {
        DutyCase x = new DutyCase();
        int[] counts = {0, 0, 0, 0, 0, 0, 0, 0, 10, 0, 0, 0, 0};
        for (int what = 0; what < counts.length; what++) {
            due("new count " + what, x.count(what), counts[what]);
        }
        due("new fault", x.fault(), NONE);
        due("new undo", x.undo(), NONE);
        due("new others", x.others(), 0);
        due("new ranked", x.ranked(0), NONE);
        due("new octet", x.octet(0), NONE);
        due("new end", x.end(1), false);
        check.thrown(NO_SUCH, () -> x.base(0), "new base");
        check.thrown(NO_SUCH, () -> x.weight(0), "new weight");
        check.thrown(NO_SUCH, () -> x.put(9, 0, 0, 9, 9, 0, 0), "new put");
        due("NONE", DutyCase.NONE, -1);
    }

    // 2
    private void feed() {
        DutyCase x = new DutyCase();
        for (int n = 20; n <= 400; n += 20) {
            due("feed", x.feed(0x20202020, 0x20202020, 0x20202020, 0x20202020, 0x20202020), n);
        }
        due("feed of too much", x.feed(0, 0, 0, 0, 0), NONE);
        due("none of it came", x.read(), 0);
        due("feed anew", x.feed(0x6669726d, 0x20780a3b, 0x66697200, 0, 0x00ff00ff), 20);
        x.end(8);
        due("highest byte first", x.read(), 0);
        due("highest byte first", x.name(true, 0, 0), 'x');
        DutyCase y = new DutyCase();
        for (int n = 0; n < 19; n++) {
            y.feed(0, 0, 0, 0, 0);
        }
        y.end(361);
        for (int n = 361; n < 381; n++) {
            y.end(n);
        }
        due("361 and 20 are 381", y.feed(0, 0, 0, 0, 0), 381);
        due("381 and 20 are too many", y.feed(0, 0, 0, 0, 0), NONE);
        y.end(380);
        due("380 and 20 are 400", y.feed(0, 0, 0, 0, 0), 400);
    }

    // 3
    private void end() {
        DutyCase x = new DutyCase();
        due("end of nothing", x.end(0), true);
        due("end below 0", x.end(-1), false);
        due("end behind", x.end(1), false);
        x.feed(0x6669726d, 0x20783b00, 0, 0, 0);
        due("end behind", x.end(21), false);
        due("end at the end", x.end(20), true);
        due("least end", x.end(Integer.MIN_VALUE), false);
        due("end", x.end(7), true);
        due("end again behind", x.end(8), false);
        due("its first bytes alone", x.read(), 0);
        due("a firm", x.count(1), 1);
        due("used up", x.end(1), false);
    }

    // 4
    private void read() {
        due("sales", told(CASE).count(2), 6);
        DutyCase x = new DutyCase();
        Check.end(x, CASE);
        due("read", x.read(), 6);
        due("read of nothing", x.read(), 0);
        due("in place of all", x.count(0), 0);
        Check.end(x, "\tfirm\nx ;\n\n profit0;step07;model b1 2 3;cost x b00012;");
        due("blanks where they may stand", x.read(), 0);
        due("step", x.count(9), 7);
        due("profit", x.count(8), 0);
        due("cost", x.cost(0, 0), 12);
        Check.end(x, "model x 1 0 0;firm x;cost x x 5;cost x x 6;step 1;step 2;profit 3;profit 4;"
                + "adjust home 5;adjust home 6;sell home x x 0 0 1 9;silent x;silent x;");
        due("the last one counts", x.read(), 1);
        due("cost", x.cost(0, 0), 6);
        due("step", x.count(9), 2);
        due("profit", x.count(8), 4);
        due("adjust", x.sale(0, 7), 6);
        due("silent twice", x.count(12), 1);
    }

    private void readInPlaceOfAll() {
        DutyCase x = told(CASE);
        x.set(0, 2);
        x.set(1, 1);
        x.set(2, 1);
        x.set(3, 1);
        x.silent(0, true);
        x.costs(0, 0, 77);
        x.drop(0);
        Check.end(x, "firm q;firm q;");
        check.thrown(NO_NUMBER, x::read, "a wrong text");
        due("a wrong text changes nothing: sales", x.count(3), 5);
        due("method", x.count(4), 2);
        due("acts", x.count(10), 7);
        due("name", x.name(true, 0, 0), 'x');
        due("cost", x.cost(0, 0), 77);
        due("fault", x.fault(), 12);
        due("the tape is used up", x.end(1), false);
        Check.end(x, CASE);
        due("read", x.read(), 6);
        due("fault is gone", x.fault(), NONE);
        int[] counts = {3, 2, 6, 6, 0, 0, 0, 0, 25, 4, 0, 0, 0};
        for (int what = 0; what < counts.length; what++) {
            due("anew count " + what, x.count(what), counts[what]);
        }
        due("cost", x.cost(0, 0), 100);
        due("nothing to undo", x.undo(), NONE);
        // More than once: what an earlier text or act has left anywhere must not show.
        for (int round = 0; round < 3; round++) {
            Check.end(x, "adjust home 1;adjust export 2;adjust third 3;model a 1 0 0;model b 1 0 0;"
                    + "firm w;firm x;firm y;firm z;silent z;");
            x.read();
            for (int firm = 0; firm < 4; firm++) {
                x.silent(firm, true);
                x.costs(firm, 0, 7);
                x.costs(firm, 1, 7);
            }
            for (int what = 0; what < 6; what++) {
                x.set(what, 1);
            }
            Check.end(x, EMPTY);
            x.read();
            for (int firm = 0; firm < 4; firm++) {
                due("costs are as the text tells", x.cost(firm, 0) + x.cost(firm, 1), 200);
            }
            int[] empty = {2, 4, 0, 0, 0, 0, 0, 0, 10, 0, 0, 0, 0};
            for (int what = 0; what < empty.length; what++) {
                due("a round's count " + what, x.count(what), empty[what]);
            }
            for (int market = 0; market < 3; market++) {
                due("off", x.sale(x.put(market, 0, 0, 0, 0, 1, 1), 7), 0);
            }
        }
        x.write(0);
        x.read();
        due("profit without", x.count(8), 10);
        due("step without", x.count(9), 0);
        due("what was written latest stays", x.octet(0), 'w');
    }

    // 5
    private void faultIs(String text, int at) {
        DutyCase x = new DutyCase();
        Check.end(x, text);
        try {
            x.read();
        } catch (IllegalArgumentException e) {
            due("fault of: " + text, x.fault(), at);
            return;
        }
        due("fault of: " + text, NONE, at);
    }

    private void fault() {
        faultIs("", NONE);
        faultIs(" \n\t", NONE);
        faultIs("\r", 0);
        faultIs(";", 0);
        faultIs("firm x;;", 7);
        faultIs("Firm x;", 0);
        faultIs("fir", 0);
        faultIs("firms x;", 0);
        faultIs("home x;", 0);
        faultIs("12;", 0);
        faultIs("firm", 4);
        faultIs("firm ", 5);
        faultIs("firm x", 6);
        faultIs("firm x  ", 8);
        faultIs("firm x;  fi", 9);
        faultIs("firm 1;", 5);
        faultIs("firm x y;", 7);
        faultIs("firm x\u0000;", 6);
        faultIs("firm x\u00e9;", 6);
        faultIs("firm abcdef;", NONE);
        faultIs("firm  abcdefg;", 6);
        faultIs("model a", 7);
        faultIs("model a 0 0 0;", 8);
        faultIs("model a 1 0 0;", NONE);
        faultIs("model a 9999 99 9999;", NONE);
        faultIs("model a 10000 99 9999;", 8);
        faultIs("model a 9999 100 9999;", 13);
        faultIs("model a 9999 99 10000;", 16);
        faultIs("model a 9999 99 9999", 20);
        faultIs("model a 00001 00 0;", NONE);
        faultIs("model a 000001 00 0;", 8);
        faultIs("model a 1 1 1 1;", 14);
        faultIs("model a -1 1 1;", 8);
        faultIs("profit 99;", NONE);
        faultIs("profit 100;", 7);
        faultIs("profit;", 6);
        faultIs("profit x;", 7);
        faultIs("step 99;step 0;", NONE);
        faultIs("step 100", 5);
        faultIs("step 1", 6);
        faultIs("step 123456", 5);
        faultIs("step 99999999999;", 5);
    }

    private void faultsOfNamesAndLimits() {
        for (String word : PlainCase.WORDS) {
            faultIs("firm " + word + ";", 5);
            faultIs("model " + word + " 1 1 1;", 6);
        }
        for (String word : PlainCase.WORDS.subList(0, 8)) {
            faultIs("z" + word.substring(1) + " x;", 0);
            faultIs(word.substring(0, word.length() - 1) + "z x;", 0);
        }
        for (String word : PlainCase.MARKETS) {
            faultIs("adjust z" + word.substring(1) + " 1;", 7);
        }
        faultIs("firm x;firm x;", 12);
        faultIs("firm xx;firm xy;firm yx;firm x;", NONE);
        faultIs("model x 1 1 1;firm x;", NONE);
        faultIs("model x 1 1 1;model x 1 1 1;", 20);
        faultIs("firm x;silent x;", NONE);
        faultIs("silent x;firm x;", 7);
        faultIs("firm x;silent 1;", 14);
        faultIs("firm x;model a 1 1 1;cost x a 9999;", NONE);
        faultIs("firm x;model a 1 1 1;cost x a 10000;", 30);
        faultIs("firm x;model a 1 1 1;cost x a 0;", 30);
        faultIs("firm x;model a 1 1 1;cost a x 5;", 26);
        faultIs("firm x;model a 1 1 1;cost x x 5;", 28);
        String ahead = "firm x;model a 1 1 1;";
        faultIs(ahead + "sell home x a 3 11 999 9999;", NONE);
        faultIs(ahead + "sell third x a 0 0 1 1;", NONE);
        faultIs(ahead + "sell export x a 0 0 1 1", 44);
        faultIs(ahead + "sell x x a 0 0 1 1;", 26);
        faultIs(ahead + "sell 0 x a 0 0 1 1;", 26);
        faultIs(ahead + "sell home y a 0 0 1 1;", 31);
        faultIs(ahead + "sell home x b 0 0 1 1;", 33);
        faultIs(ahead + "sell home x a 4 0 1 1;", 35);
        faultIs(ahead + "sell home x a 0 12 1 1;", 37);
        faultIs(ahead + "sell home x a 0 0 0 1;", 39);
        faultIs(ahead + "sell home x a 0 0 1000 1;", 39);
        faultIs(ahead + "sell home x a 0 0 1 0;", 41);
        faultIs(ahead + "sell home x a 0 0 1 10000;", 41);
        faultIs(ahead + "sell home x a 0 0 1 1 1;", 43);
        faultIs("firm a;firm b;firm c;firm d;", NONE);
        faultIs("firm a;firm b;firm c;firm d; firm e;", 29);
        faultIs("firm a;firm b;firm c;firm d;firm", 28);
        String six = "";
        for (char name = 'a'; name < 'g'; name++) {
            six += "model " + name + " 1 1 1;";
        }
        faultIs(six, NONE);
        faultIs(six + "model", 84);
        faultIs(six + " model g 1 1 1;", 85);
    }

    private void faultsOfSums() {
        faultIs("adjust", 6);
        faultIs("adjust home", 11);
        faultIs("adjust homes 1;", 7);
        faultIs("adjust home ;", 12);
        faultIs("adjust home 9999;", NONE);
        faultIs("adjust home 10000;", 12);
        faultIs("adjust home 00001;", 12);
        faultIs("adjust home q p;", 14);
        faultIs("adjust home q1;", 13);
        faultIs("adjust home 1q;", 13);
        faultIs("adjust home qp;", 12);
        faultIs("adjust home x;", 12);
        faultIs("adjust home -1;", 12);
        faultIs("adjust home 1+;", 14);
        faultIs("adjust home 1*-1;", 14);
        faultIs("adjust home 1+", 14);
        faultIs("adjust home ()", 13);
        faultIs("adjust home (1;", 14);
        faultIs("adjust home 1);", 13);
        faultIs("adjust home (1", 14);
        faultIs("adjust third q+p-l*m/c+(1-( 2 ) )*3;", NONE);
        faultIs("adjust home ((((((1))))));", NONE);
        faultIs("adjust home (((((((1)))))));", 18);
        faultIs("adjust home ((((((1))))))+((((((1))))));", NONE);
        faultIs("adjust home ((((((1)+(2)))))-( ((((((1)))))));", 35);
    }

    // 6
    private void name() {
        DutyCase x = told("model abcdef 1 1 1;model g 1 1 1;firm abc;firm g;");
        DutyCase six = told("model abcdea 1 1 1;model abcdeb 1 1 1;model abcdec 1 1 1;model abcded 1 1 1;"
                + "model abcdee 1 1 1;model abcdef 1 1 1;firm fghijk;firm fghijl;firm fghijm;firm fghijn;");
        for (int i = 0; i < 6; i++) {
            due("last letter", six.name(false, i, 5), 'a' + i);
            due("behind", six.name(false, i, 6), NONE);
        }
        due("last letter of the last firm", six.name(true, 3, 5), 'n');
        due("letter", x.name(false, 0, 0), 'a');
        due("letter", x.name(false, 0, 5), 'f');
        due("behind", x.name(false, 0, 6), NONE);
        due("another's", x.name(false, 1, 0), 'g');
        due("behind", x.name(false, 1, 1), NONE);
        due("of a firm", x.name(true, 0, 2), 'c');
        due("behind", x.name(true, 0, 3), NONE);
        due("far behind", x.name(true, 0, Integer.MAX_VALUE), NONE);
        due("ahead", x.name(true, 0, -1), NONE);
        check.thrown(NO_SUCH, () -> x.name(true, 2, 0), "no firm");
        check.thrown(NO_SUCH, () -> x.name(false, 2, 0), "no model");
        check.thrown(NO_SUCH, () -> x.name(false, -1, 0), "no model");
    }

    // 7
    private void model() {
        DutyCase x = told("model a 12 34 56;firm x;cost x a 99;");
        due("cost", x.model(0, 0), 12);
        due("likeness", x.model(0, 1), 34);
        due("target", x.model(0, 2), 56);
        check.thrown(NO_WHAT, () -> x.model(0, 3), "no such what");
        check.thrown(NO_WHAT, () -> x.model(0, -1), "no such what");
        check.thrown(NO_SUCH, () -> x.model(1, 3), "no model told first");
        check.thrown(NO_SUCH, () -> x.model(-1, 0), "no model");
    }

    // 8
    private void cost() {
        DutyCase x = told("model a 12 34 56;model b 7 1 1;firm x;firm y;cost y a 99;");
        due("the model's", x.cost(0, 0), 12);
        due("told", x.cost(1, 0), 99);
        due("the model's", x.cost(1, 1), 7);
        check.thrown(NO_SUCH, () -> x.cost(2, 0), "no firm");
        check.thrown(NO_SUCH, () -> x.cost(0, 2), "no model");
        check.thrown(NO_SUCH, () -> x.cost(-1, -1), "neither");
    }

    // 9
    private void sale() {
        DutyCase x = told("model a 50 0 0;model b 9 0 0;firm x;firm y;adjust third q+l;"
                + "sell third y b 3 11 20 100;sell home x a 0 0 8 50;sell home x a 1 1 2 49;sell home y a 1 1 1 10;");
        int[] all = {2, 1, 1, 3, 11, 20, 100, 23, 77, 0, 0};
        for (int what = 0; what < all.length; what++) {
            due("sale what " + what, x.sale(0, what), all[what]);
        }
        due("not below at its cost", x.sale(1, 9), 0);
        due("in", x.sale(1, 10), 1);
        due("below", x.sale(2, 9), 1);
        due("out", x.sale(2, 10), 0);
        x.put(0, 0, 0, 0, 0, 1, 60);
        due("below still", x.sale(2, 9), 1);
        due("below and in: 5 times 2 is less than 11", x.sale(2, 10), 1);
        due("third is not base where home is", x.sale(0, 10), 0);
        due("below, and all there is", x.sale(3, 10), 0);
        check.thrown(NO_WHAT, () -> x.sale(0, 11), "no such what");
        check.thrown(NO_WHAT, () -> x.sale(0, -1), "no such what");
        check.thrown(NO_SUCH, () -> x.sale(5, 11), "no sale told first");
        x.drop(0);
        check.thrown(NO_SUCH, () -> x.sale(0, 0), "dropped");
    }

    private void offIs(String sum, int off) {
        DutyCase x = told("adjust home " + sum + ";firm x;model a 70 0 0;cost x a 77;sell home x a 3 11 5 1000;");
        due("off of " + sum, x.sale(0, 7), off);
        due("net of " + sum, x.sale(0, 8), Math.max(0, Math.min(99999, 1000 - off)));
    }

    private void off() {
        offIs("q", 5);
        offIs("p", 1000);
        offIs("l", 3);
        offIs("m", 11);
        offIs("c", 77);
        offIs("0", 0);
        offIs("p/7", 142);
        offIs("1-2-3", -4);
        offIs("1-(2-3)", 2);
        offIs("100/7/2", 7);
        offIs("2+3*4", 14);
        offIs("(2+3)*4", 20);
        offIs("(0-7)/2", -4);
        offIs("7/(0-2)", -4);
        offIs("(0-7)/(0-2)", 3);
        offIs("(0-8)/2", -4);
        offIs("7/0", 0);
        offIs("5+7/(q-5)*9", 5);
        offIs("9999*9999", 1000000);
        offIs("0-9999*9999", -1000000);
        offIs("9999*9999*9999/1000", 1000);
        offIs("9999*9999-9999*9999-9999*9999", -1000000);
        offIs("9999*100+9999*100-9999*100", 100);
        offIs("0-9899*10-8", -98998);
        offIs("0-9899*10-9", -98999);
        offIs("0-9899*10-10", -99000);
        offIs("0-9999*10", -99990);
        offIs("p+1", 1001);
        offIs("((((((q))))))*((((((l))))))", 15);
        offIs("1+2*(1+2*(1+2*(1+2*(1+2*(1+2*(3))))))", 255);
    }

    // 10
    private void put() {
        DutyCase x = told(EMPTY);
        due("put", x.put(2, 3, 1, 3, 11, 999, 9999), 0);
        int[] all = {2, 3, 1, 3, 11, 999, 9999, 0, 9999};
        for (int what = 0; what < all.length; what++) {
            due("put what " + what, x.sale(0, what), all[what]);
        }
        due("put", x.put(0, 0, 0, 0, 0, 1, 1), 1);
        x.drop(1);
        due("numbers are kept", x.put(1, 0, 0, 0, 0, 1, 1), 2);
        check.thrown(NO_SUCH, () -> x.put(0, 4, 0, 0, 0, 1, 1), "no firm");
        check.thrown(NO_SUCH, () -> x.put(0, 0, 2, 0, 0, 1, 1), "no model");
        check.thrown(NO_SUCH, () -> x.put(3, 0, -1, 4, 12, 0, 0), "no model told first");
        check.thrown(NO_NUMBER, () -> x.put(3, 0, 0, 0, 0, 1, 1), "market");
        check.thrown(NO_NUMBER, () -> x.put(-1, 0, 0, 0, 0, 1, 1), "market");
        check.thrown(NO_NUMBER, () -> x.put(0, 0, 0, 4, 0, 1, 1), "level");
        check.thrown(NO_NUMBER, () -> x.put(0, 0, 0, -1, 0, 1, 1), "level");
        check.thrown(NO_NUMBER, () -> x.put(0, 0, 0, 0, 12, 1, 1), "month");
        check.thrown(NO_NUMBER, () -> x.put(0, 0, 0, 0, -1, 1, 1), "month");
        check.thrown(NO_NUMBER, () -> x.put(0, 0, 0, 0, 0, 0, 1), "many");
        check.thrown(NO_NUMBER, () -> x.put(0, 0, 0, 0, 0, 1000, 1), "many");
        check.thrown(NO_NUMBER, () -> x.put(0, 0, 0, 0, 0, 1, 0), "price");
        check.thrown(NO_NUMBER, () -> x.put(0, 0, 0, 0, 0, 1, 10000), "price");
        due("nothing came of these", x.count(2), 3);
        due("nor an act", x.count(10), 4);
        for (int n = 3; n < 40; n++) {
            due("put", x.put(n % 3, n % 4, n % 2, 0, 0, 1, 1), n);
        }
        check.thrown(CANNOT_BE, () -> x.put(0, 0, 0, 0, 0, 1, 1), "the 41st");
        check.thrown(NO_NUMBER, () -> x.put(0, 0, 0, 0, 0, 1, 0), "a wrong 41st");
        x.drop(39);
        check.thrown(CANNOT_BE, () -> x.put(0, 0, 0, 0, 0, 1, 1), "those dropped are of the 40");
        x.undo();
        x.undo();
        due("put again", x.put(0, 0, 0, 0, 0, 1, 1), 39);
    }

    // 11
    private void drop() {
        DutyCase x = told(CASE);
        x.drop(3);
        due("numbers are kept", x.sale(4, 6), 90);
        due("it counts no more", x.value(0), 450000);
        due("sales", x.count(2), 6);
        due("that count", x.count(3), 5);
        check.thrown("dropped", NO_SUCH, () -> x.drop(3));
        check.thrown("none", NO_SUCH, () -> x.drop(6));
        check.thrown("none", NO_SUCH, () -> x.drop(-1));
        check.thrown(NO_SUCH, () -> x.price(3, 1), "dropped");
        check.thrown(NO_SUCH, () -> x.match(3), "dropped");
        check.thrown(NO_SUCH, () -> x.difference(3, 0), "dropped");
        check.thrown(NO_SUCH, () -> x.collected(3, true), "dropped");
        check.thrown(NO_SUCH, () -> x.weight(3), "dropped");
        x.drop(0);
        x.drop(1);
        x.drop(2);
        due("no base is left", x.base(0), NONE);
        due("by cost and profit", x.worth(0, 0, 1, NONE), 125000);
    }

    // 12
    private void price() {
        DutyCase x = told("adjust home p/10;model a 100 0 0;firm x;sell home x a 0 0 5 150;");
        due("what it was", x.price(0, 200), 150);
        due("what it is", x.price(0, 9999), 200);
        due("off", x.sale(0, 7), 999);
        due("net", x.sale(0, 8), 9000);
        due("worth", x.worth(0, 0, 0, NONE), 9000000);
        check.thrown(NO_NUMBER, () -> x.price(0, 0), "too little");
        check.thrown(NO_NUMBER, () -> x.price(0, 10000), "too much");
        check.thrown(NO_SUCH, () -> x.price(1, 0), "no sale told first");
        due("least", x.price(0, 1), 9999);
        due("acts", x.count(10), 3);
    }

    // 13
    private void costs() {
        DutyCase x = told("adjust home c;model a 100 0 0;firm x;firm y;sell home x a 0 0 5 250;sell home y a 0 0 5 250;");
        due("what it was", x.costs(0, 0, 110), 100);
        due("what it is", x.costs(0, 0, 120), 110);
        due("cost", x.cost(0, 0), 120);
        due("another firm's", x.cost(1, 0), 100);
        due("the model's own", x.model(0, 0), 100);
        due("net", x.sale(0, 8), 130);
        due("another's net", x.sale(1, 8), 150);
        x.costs(0, 0, 126);
        due("below now", x.sale(0, 9), 1);
        check.thrown(NO_NUMBER, () -> x.costs(0, 0, 0), "too little");
        check.thrown(NO_NUMBER, () -> x.costs(0, 0, 10000), "too much");
        check.thrown(NO_SUCH, () -> x.costs(2, 0, 0), "no firm");
        check.thrown(NO_SUCH, () -> x.costs(0, 1, 0), "no model");
        due("most", x.costs(0, 0, 9999), 126);
        due("least", x.costs(0, 0, 1), 9999);
        due("acts", x.count(10), 5);
        due("the same", x.costs(0, 0, 1), 1);
        due("an act where nothing changes", x.count(10), 6);
    }

    // 14
    private void set() {
        DutyCase x = new DutyCase();
        int[] first = {0, 0, 0, 0, 10, 0};
        int[] most = {2, 1, 1, 1, 99, 99};
        for (int k = 0; k < 6; k++) {
            int what = k;
            due("what it was " + what, x.set(what, most[what]), first[what]);
            due("what it was " + what, x.set(what, 0), most[what]);
            due("again " + what, x.set(what, most[what]), 0);
            due("count " + what, x.count(4 + what), most[what]);
            check.thrown(NO_NUMBER, () -> x.set(what, most[what] + 1), "too much");
            check.thrown(NO_NUMBER, () -> x.set(what, -1), "too little");
        }
        check.thrown(NO_WHAT, () -> x.set(6, -1), "no such what told first");
        check.thrown(NO_WHAT, () -> x.set(-1, 0), "no such what");
        due("acts", x.count(10), 16);
    }

    // 15
    private void silent() {
        DutyCase x = told(CASE);
        due("it was not", x.silent(1, true), false);
        due("it was", x.silent(1, true), true);
        due("count", x.count(12), 1);
        due("it was", x.silent(1, false), true);
        due("it was not", x.silent(1, false), false);
        due("count", x.count(12), 0);
        due("acts", x.count(10), 4);
        check.thrown("no firm", NO_SUCH, () -> x.silent(2, true));
        check.thrown("no firm", NO_SUCH, () -> x.silent(-1, true));
    }

    // 16
    private void undo() {
        DutyCase x = told(CASE);
        due("none", x.undo(), NONE);
        for (int n = 1; n <= 20; n++) {
            x.set(5, n);
            due("acts", x.count(10), Math.min(16, n));
        }
        for (int n = 15; n >= 0; n--) {
            due("undo", x.undo(), n);
            due("step", x.count(9), n + 4);
        }
        due("no more", x.undo(), NONE);
        due("nothing changed", x.count(9), 4);
        x.set(0, 1);
        due("one", x.undo(), 0);
        check.thrown("a call that throws", NO_SUCH, () -> x.drop(9));
        due("is no act", x.undo(), NONE);
    }

    /** Every answer that rests on what acts change. */
    private static List<Long> all(DutyCase x) {
        List<Long> all = new ArrayList<>();
        for (int what : new int[] {0, 1, 2, 3, 4, 5, 6, 7, 8, 9, 12}) {
            all.add((long) x.count(what));
        }
        for (int sale = 0; sale < x.count(2); sale++) {
            for (int what = 0; what < 11; what++) {
                try {
                    all.add((long) x.sale(sale, what));
                } catch (IndexOutOfBoundsException e) {
                    all.add(-99L);
                }
            }
        }
        for (int firm = 0; firm < x.count(1); firm++) {
            for (int model = 0; model < x.count(0); model++) {
                all.add((long) x.cost(firm, model));
                all.add(x.worth(firm, model, 1, 2));
            }
            for (int what = 0; what < 4; what++) {
                all.add((long) x.duty(firm, what));
            }
            all.add(x.back(firm));
        }
        all.add((long) x.others());
        return all;
    }

    private void undoEach() {
        DutyCase x = told(CASE);
        List<List<Long>> states = new ArrayList<>();
        for (int act = 0; act < 16; act++) {
            states.add(all(x));
            switch (act) {
                case 0: x.put(0, 0, 1, 2, 3, 4, 150); break;
                case 1: x.price(6, 500); break;
                case 2: x.drop(6); break;
                case 3: x.costs(0, 1, 99); break;
                case 4: x.costs(0, 1, 80); break;
                case 5: x.silent(0, true); break;
                case 6: x.silent(0, true); break;
                case 7: x.silent(0, false); break;
                case 8: x.put(1, 1, 1, 2, 3, 4, 50); break;
                case 9: x.price(0, 121); break;
                case 10: x.drop(0); break;
                case 11: x.costs(0, 0, 135); break;
                default: x.set(act - 11, 1); break;
            }
        }
        for (int act = 15; act >= 0; act--) {
            due("undo", x.undo(), act);
            due("as ahead of act " + act, all(x).equals(states.get(act)), true);
        }
    }

    // 17
    private void base() {
        DutyCase x = told(EMPTY);
        due("no sale", x.base(0), NONE);
        x.put(1, 0, 0, 0, 0, 20, 100);
        due("exports alone", x.base(0), NONE);
        x.put(2, 0, 0, 0, 0, 1, 100);
        due("20 times 1 is not less than 20", x.base(0), 2);
        x.put(0, 0, 1, 0, 0, 1, 100);
        due("home is ahead of third", x.base(0), 0);
        x.put(1, 0, 0, 0, 0, 1, 100);
        due("20 are less than 21", x.base(0), NONE);
        x.put(2, 0, 1, 0, 0, 1, 100);
        due("40 are not", x.base(0), 2);
        x.put(0, 1, 1, 0, 0, 1, 100);
        due("another firm's do not count", x.base(0), 2);
        due("home without exports", x.base(1), 0);
        x.put(2, 2, 1, 0, 0, 1, 100);
        due("third without exports", x.base(2), 2);
        check.thrown(NO_SUCH, () -> x.base(4), "no firm");
        check.thrown(NO_SUCH, () -> x.base(-1), "no firm");
    }

    // 18
    private void below() {
        DutyCase x = told(EMPTY);
        x.put(0, 0, 0, 0, 0, 8, 100);
        x.put(0, 0, 0, 1, 0, 2, 99);
        due("all", x.below(0, 0, 0), 10);
        due("below", x.below(0, 0, 1), 2);
        due("out: 5 times 2 are not less than 10", x.below(0, 0, 2), 1);
        x.put(0, 0, 0, 0, 0, 1, 100);
        due("all", x.below(0, 0, 0), 11);
        due("not out: 10 are less than 11", x.below(0, 0, 2), 0);
        due("another model", x.below(0, 1, 0), 0);
        due("none below are none out", x.below(0, 1, 2), 0);
        x.put(2, 0, 0, 0, 0, 50, 50);
        due("third is not base", x.below(0, 0, 0), 11);
        x.put(1, 0, 0, 0, 0, 999, 50);
        due("base is third now", x.below(0, 0, 1), 50);
        x.put(1, 0, 0, 0, 0, 2, 50);
        due("no base", x.below(0, 0, 0), 0);
        due("no base", x.below(0, 0, 1), 0);
        due("no base", x.below(0, 0, 2), 0);
        check.thrown(NO_WHAT, () -> x.below(0, 0, 3), "no such what");
        check.thrown(NO_WHAT, () -> x.below(0, 0, -1), "no such what");
        check.thrown(NO_SUCH, () -> x.below(4, 0, 3), "no firm");
        check.thrown(NO_SUCH, () -> x.below(0, 2, 3), "no model");
    }

    // 19
    private void worth() {
        DutyCase x = told(CASE);
        due("nearest level, the lower of two", x.worth(0, 0, 2, NONE), 129000);
        due("its own level", x.worth(0, 0, 1, NONE), 125000);
        due("its own level", x.worth(0, 0, 3, NONE), 140000);
        due("a level below", x.worth(0, 0, 0, NONE), 121000);
        due("of a month", x.worth(0, 0, 2, 2), 124000);
        due("of a month", x.worth(0, 0, 2, 5), 134000);
        due("none of that month", x.worth(0, 0, 2, 7), 129000);
        x.put(0, 0, 0, 1, 7, 1, 146);
        due("one of that month", x.worth(0, 0, 2, 7), 150000);
        due("one of that month at another level", x.worth(0, 0, 3, 7), 140000);
        x.undo();
        due("cost and profit", x.worth(0, 2, 2, NONE), 162000);
        due("another firm", x.worth(1, 0, 2, 11), 125000);
        x.set(3, 1);
        due("whatever is told", x.worth(0, 0, 2, NONE), 129000);
        x.set(5, 99);
        x.price(0, 100);
        x.price(2, 100);
        due("with a great step", x.worth(0, 0, 0, NONE), 1000);
        x.costs(0, 0, 50);
        x.price(0, 60);
        x.price(2, 60);
        due("0 at least", x.worth(0, 0, 0, NONE), 0);
        x.price(2, 61);
        x.put(0, 0, 0, 1, 6, 1, 60);
        due("rounded down", x.worth(0, 0, 1, NONE), 60476);
        x.price(2, 49);
        due("50 are less than 51: not out", x.worth(0, 0, 1, NONE), 54761);
        x.price(1, 49);
        due("what is out does not count", x.worth(0, 0, 1, NONE), 60000);
        check.thrown(NO_NUMBER, () -> x.worth(0, 0, 4, 0), "level");
        check.thrown(NO_NUMBER, () -> x.worth(0, 0, -1, 0), "level");
        check.thrown(NO_NUMBER, () -> x.worth(0, 0, 0, 12), "month");
        check.thrown(NO_NUMBER, () -> x.worth(0, 0, 0, -2), "month");
        check.thrown(NO_SUCH, () -> x.worth(2, 0, 9, 0), "no firm");
        check.thrown(NO_SUCH, () -> x.worth(0, 3, 9, 0), "no model");
    }

    private void worthOfAnotherModel() {
        DutyCase x = told(CASE);
        due("with what its cost is above", x.worth(0, 1, 2, NONE), 139000);
        due("of a month", x.worth(0, 1, 2, 5), 144000);
        x.costs(0, 1, 90);
        due("is taken off below", x.worth(0, 1, 2, NONE), 119000);
        x.costs(0, 1, 125);
        due("apart by a fifth", x.worth(0, 1, 2, NONE), 154000);
        x.costs(0, 1, 126);
        due("apart by more", x.worth(0, 1, 2, NONE), 157000);
        x.costs(0, 1, 84);
        due("below by no more than a fifth", x.worth(0, 1, 2, NONE), 113000);
        x.costs(0, 1, 83);
        due("below by more", x.worth(0, 1, 2, NONE), 103000);
    }

    // 20
    private void found() {
        DutyCase x = told("model a 100 50 0;model b 100 52 0;model c 100 48 0;model d 100 49 0;model e 500 50 0;firm x;firm y;");
        due("none", x.found(0, 0, 0, 0), 3);
        due("no model", x.found(0, 0, 0, 1), NONE);
        due("no level", x.found(0, 0, 0, 2), NONE);
        x.put(0, 0, 4, 0, 0, 1, 500);
        due("apart by too much", x.found(0, 0, 0, 0), 3);
        x.put(0, 0, 2, 2, 0, 1, 100);
        due("another", x.found(0, 0, 0, 0), 2);
        due("the model", x.found(0, 0, 0, 1), 2);
        due("the level", x.found(0, 0, 0, 2), 2);
        x.put(0, 0, 1, 0, 0, 1, 100);
        due("as near: the first", x.found(0, 0, 0, 1), 1);
        due("the level", x.found(0, 0, 1, 2), 0);
        x.put(0, 0, 3, 3, 0, 1, 100);
        due("nearer", x.found(0, 0, 0, 1), 3);
        x.put(0, 0, 0, 3, 0, 1, 99);
        due("below and out", x.found(0, 0, 0, 0), 2);
        x.put(0, 0, 0, 2, 0, 1, 100);
        due("the same", x.found(0, 0, 0, 0), 1);
        due("its model", x.found(0, 0, 3, 1), 0);
        due("its level", x.found(0, 0, 3, 2), 2);
        x.put(0, 0, 0, 0, 0, 1, 100);
        due("the lower of two", x.found(0, 0, 1, 2), 0);
        due("another firm", x.found(1, 0, 1, 0), 3);
        check.thrown(NO_WHAT, () -> x.found(0, 0, 0, 3), "no such what");
        check.thrown(NO_WHAT, () -> x.found(0, 0, 0, -1), "no such what");
        check.thrown(NO_NUMBER, () -> x.found(0, 0, 4, 3), "level told first");
        check.thrown(NO_NUMBER, () -> x.found(0, 0, -1, 0), "level");
        check.thrown(NO_SUCH, () -> x.found(2, 0, 4, 3), "no firm");
        check.thrown(NO_SUCH, () -> x.found(0, 5, 4, 3), "no model");
    }

    // 21
    private void match() {
        DutyCase x = told(EMPTY);
        int e = x.put(1, 0, 0, 1, 6, 50, 80);
        due("none", x.match(e), NONE);
        x.put(0, 0, 1, 1, 6, 50, 200);
        due("of another model", x.match(e), NONE);
        int far = x.put(0, 0, 0, 3, 6, 50, 200);
        due("one", x.match(e), far);
        int level = x.put(0, 0, 0, 2, 0, 5, 200);
        due("nearer level", x.match(e), level);
        int month = x.put(0, 0, 0, 0, 11, 5, 200);
        due("nearer month by numbers, at another level as near", x.match(e), month);
        int many = x.put(0, 0, 0, 0, 1, 6, 200);
        due("month as near, nearer many", x.match(e), many);
        x.put(0, 0, 0, 2, 1, 94, 200);
        due("all as near: the first", x.match(e), many);
        x.put(0, 0, 0, 1, 0, 999, 200);
        due("the level ahead of all", x.match(e), 7);
        x.put(0, 0, 0, 1, 6, 50, 99);
        due("below, not out", x.match(e), 8);
        x.price(7, 90);
        due("out", x.match(e), many);
        x.put(0, 1, 0, 1, 6, 50, 200);
        due("another firm's", x.match(e), many);
        check.thrown(NO_NUMBER, () -> x.match(far), "no export");
        DutyCase y = told(EMPTY);
        y.put(1, 0, 0, 0, 0, 999, 80);
        y.put(0, 0, 0, 1, 0, 999, 200);
        y.put(0, 0, 0, 0, 11, 999, 200);
        due("no month outweighs a level", y.match(0), 2);
        y.put(0, 0, 0, 0, 1, 999, 200);
        y.put(0, 0, 0, 0, 0, 1, 200);
        due("no many outweighs a month", y.match(0), 4);
        check.thrown(NO_SUCH, () -> x.match(99), "no sale");
        check.thrown(NO_SUCH, () -> x.match(-1), "no sale");
    }

    // 22
    private void difference() {
        DutyCase x = told(CASE);
        due("by averages with each", x.difference(3, 1), 290000);
        due("each with each", x.difference(3, 2), 240000);
        due("without a match", x.difference(4, 2), 245000);
        due("by cost and profit", x.difference(5, 1), 60000);
        x.set(3, 1);
        due("by months", x.difference(3, 1), 240000);
        x.set(5, 9);
        due("a step more", x.difference(3, 2), 290000);
        x.price(3, 200);
        due("below 0", x.difference(3, 2), -710000);
        x.set(5, 99);
        x.put(1, 0, 0, 0, 0, 2, 7);
        due("a step taken off", x.difference(6, 2), 28000);
        x.costs(0, 0, 50);
        x.price(0, 60);
        x.price(2, 60);
        due("0 at least", x.difference(6, 2), -14000);
        check.thrown(NO_NUMBER, () -> x.difference(3, 0), "method");
        check.thrown(NO_NUMBER, () -> x.difference(3, 3), "method");
        check.thrown(NO_NUMBER, () -> x.difference(0, 1), "no export");
        check.thrown(NO_SUCH, () -> x.difference(7, 0), "no sale told first");
    }

    private static DutyCase grouped() {
        DutyCase x = told(EMPTY);
        x.put(0, 0, 0, 0, 1, 10, 110);
        x.put(0, 0, 0, 0, 2, 20, 125);
        x.put(1, 0, 1, 3, 1, 1, 120);
        x.put(1, 0, 0, 0, 1, 2, 100);
        x.put(1, 1, 0, 0, 1, 4, 100);
        x.put(1, 0, 0, 0, 2, 1, 130);
        x.put(1, 0, 0, 1, 1, 3, 115);
        return x;
    }

    // 23
    private void groups() {
        DutyCase x = grouped();
        due("groups", x.groups(0), 3);
        due("of another firm", x.groups(1), 1);
        due("without exports", x.groups(2), 0);
        x.set(3, 1);
        due("by months", x.groups(0), 4);
        x.drop(3);
        x.drop(5);
        due("dropped", x.groups(0), 2);
        check.thrown(NO_SUCH, () -> x.groups(4), "no firm");
        check.thrown(NO_SUCH, () -> x.groups(-1), "no firm");
    }

    private void groupIs(DutyCase x, int k, long... want) {
        for (int what = 0; what < 7; what++) {
            due("group " + k + " what " + what, x.group(0, k, what), want[what]);
        }
    }

    // 24
    private void group() {
        DutyCase x = grouped();
        // Home: 10 at 110 and 20 at 125 are 120 a piece; abroad 2 at 100 and 1 at 130 are 110 a piece.
        groupIs(x, 0, 1, 3, NONE, 1, 120000, 120000, 0);
        groupIs(x, 1, 0, 0, NONE, 3, 110000, 120000, 30000);
        groupIs(x, 2, 0, 1, NONE, 3, 115000, 120000, 15000);
        x.set(3, 1);
        groupIs(x, 0, 1, 3, 1, 1, 120000, 110000, -10000);
        groupIs(x, 1, 0, 0, 1, 2, 100000, 110000, 20000);
        groupIs(x, 2, 0, 0, 2, 1, 130000, 125000, -5000);
        groupIs(x, 3, 0, 1, 1, 3, 115000, 110000, -15000);
        x.set(3, 0);
        x.price(5, 101);
        due("an average is rounded down", x.group(0, 1, 4), 100333);
        due("and its difference is by that", x.group(0, 1, 6), 59001);
        check.thrown(NO_WHAT, () -> x.group(0, 3, 0), "no group");
        check.thrown(NO_WHAT, () -> x.group(0, -1, 0), "no group");
        check.thrown(NO_WHAT, () -> x.group(0, 0, 7), "no such what");
        check.thrown(NO_WHAT, () -> x.group(0, 0, -1), "no such what");
        check.thrown(NO_WHAT, () -> x.group(2, 0, 0), "no group");
        check.thrown(NO_SUCH, () -> x.group(4, 9, 9), "no firm");
    }

    // 25
    private void sum() {
        DutyCase x = grouped();
        due("averages", x.sum(0, 0, false), 45000);
        due("averages, zeroing", x.sum(0, 0, true), 45000);
        due("averages with each", x.sum(0, 1, false), 45000);
        due("averages with each, zeroing", x.sum(0, 1, true), 55000);
        // Each with each: 100 with 110 twice, 130 with 125, 115 with 110 three times, 120 with none: 120.
        due("each with each", x.sum(0, 2, false), 0);
        due("each with each, zeroing", x.sum(0, 2, true), 20000);
        x.set(3, 1);
        due("by months", x.sum(0, 0, false), -10000);
        due("by months, zeroing", x.sum(0, 0, true), 20000);
        due("without exports", x.sum(2, 0, true), 0);
        check.thrown(NO_NUMBER, () -> x.sum(0, 3, true), "method");
        check.thrown(NO_NUMBER, () -> x.sum(0, -1, true), "method");
        check.thrown(NO_SUCH, () -> x.sum(4, 3, true), "no firm");
    }

    // 26
    private void value() {
        DutyCase x = grouped();
        due("value", x.value(0), 795000);
        due("of another", x.value(1), 400000);
        due("without exports", x.value(2), 0);
        check.thrown(NO_SUCH, () -> x.value(4), "no firm");
        DutyCase y = told("adjust export p/2;model a 1 0 0;firm x;sell export x a 0 0 3 101;");
        due("by net", y.value(0), 153000);
    }

    // 27
    private void margin() {
        DutyCase x = grouped();
        due("rounded down", x.margin(0, 0, false), 566);
        due("with zeroing", x.margin(0, 1, true), 691);
        due("0", x.margin(0, 2, false), 0);
        due("by cost and profit", x.margin(1, 0, false), 1000);
        x.set(3, 1);
        due("0 at least", x.margin(0, 0, false), 0);
        x.set(3, 0);
        x.silent(2, true);
        due("silent: the greatest", x.margin(2, 0, false), 1000);
        x.price(4, 105);
        due("silent: the greatest by these", x.margin(2, 1, true), 691);
        x.silent(0, true);
        due("of those that were not", x.margin(0, 1, true), 476);
        x.silent(1, true);
        x.silent(3, true);
        due("0 without", x.margin(0, 0, false), 0);
        check.thrown(NO_NUMBER, () -> x.margin(0, 3, true), "method");
        check.thrown(NO_NUMBER, () -> x.margin(0, -1, true), "method");
        check.thrown(NO_SUCH, () -> x.margin(4, 3, true), "no firm");
        DutyCase y = told("adjust export p;model a 9999 0 0;firm x;firm y;sell export x a 0 0 1 5;");
        due("value 0, sum not", y.margin(0, 0, false), 99999);
        due("neither", y.margin(1, 0, false), 0);
        DutyCase z = told("model a 9999 0 0;firm x;sell export x a 0 0 1 5;");
        due("99999 at most", z.margin(0, 1, false), 99999);
    }

    private static DutyCase exporting(int... many) {
        DutyCase x = told(EMPTY);
        for (int firm = 0; firm < many.length; firm++) {
            if (many[firm] > 0) {
                x.put(1, firm, 0, 0, 0, many[firm], 50);
            }
        }
        return x;
    }

    private void negligibleAre(DutyCase x, int bits) {
        for (int firm = 0; firm < 4; firm++) {
            due("negligible " + firm, x.negligible(firm), (bits >> firm & 1) == 1);
        }
    }

    // 28
    private void negligible() {
        negligibleAre(exporting(97, 3, 0, 0), 0);
        negligibleAre(exporting(98, 2, 0, 0), 2);
        negligibleAre(exporting(291, 9, 0, 0), 0);
        negligibleAre(exporting(292, 8, 0, 0), 2);
        negligibleAre(exporting(930, 29, 29, 12), 14);
        negligibleAre(exporting(929, 29, 29, 13), 0);
        negligibleAre(exporting(29, 29, 12, 930), 7);
        negligibleAre(exporting(29, 29, 13, 929), 0);
        negligibleAre(exporting(259, 8, 0, 0), 2);
        negligibleAre(exporting(258, 8, 0, 0), 0);
        negligibleAre(exporting(0, 0, 0, 0), 0);
        DutyCase x = exporting(900, 20, 0, 0);
        x.put(0, 2, 0, 0, 0, 1, 1);
        negligibleAre(x, 2);
        x.drop(0);
        negligibleAre(x, 0);
        check.thrown(NO_SUCH, () -> x.negligible(4) ? 1 : 0, "no firm");
        check.thrown(NO_SUCH, () -> x.negligible(-1) ? 1 : 0, "no firm");
    }

    private void dutyIs(DutyCase x, int firm, int... want) {
        for (int what = 0; what < 4; what++) {
            due("duty of " + firm + " what " + what, x.duty(firm, what), want[what]);
        }
    }

    // 29
    private void duty() {
        DutyCase x = told(CASE);
        dutyIs(x, 0, 3689, 3689, 5000, 3689);
        dutyIs(x, 1, 800, 800, 0, 800);
        x.set(0, 2);
        dutyIs(x, 0, 3344, 3344, 5000, 3344);
        x.set(2, 1);
        dutyIs(x, 0, 3344, 3344, 5000, 3344);
        dutyIs(x, 1, 800, 800, 0, 800);
        x.put(1, 0, 0, 2, 2, 10, 195);
        // With targets: 50 above ten times, 45 below ten times, of 2950: 169.49 in ten thousand. Margin: 0.
        dutyIs(x, 0, 0, 0, 169, 0);
        x.set(1, 1);
        dutyIs(x, 0, 1426, 1426, 169, 169);
        x.set(2, 0);
        dutyIs(x, 0, 1426, 1426, 169, 1426);
        x.price(6, 205);
        dutyIs(x, 0, 1385, 1385, 0, 1385);
        x.set(2, 1);
        dutyIs(x, 0, 1385, 1385, 0, 0);
        check.thrown(NO_WHAT, () -> x.duty(0, 4), "no such what");
        check.thrown(NO_WHAT, () -> x.duty(0, -1), "no such what");
        check.thrown(NO_SUCH, () -> x.duty(2, 4), "no firm told first");
        DutyCase y = told(EMPTY);
        y.put(1, 0, 0, 0, 0, 100, 108);
        // 110 less 108 by 108 is 185 in ten thousand.
        dutyIs(y, 0, 185, 0, 0, 0);
        y.put(1, 1, 0, 0, 0, 2, 50);
        dutyIs(y, 1, 12000, 0, 0, 0);
        y.silent(2, true);
        dutyIs(y, 2, 12000, 0, 0, 0);
        y.put(1, 2, 0, 0, 0, 50, 50);
        dutyIs(y, 2, 12000, 12000, 0, 12000);
        DutyCase z = told("adjust export p-107+l;model a 100 0 9999;firm x;sell export x a 0 0 1 500;sell export x a 3 0 1 500;");
        dutyIs(z, 0, 426, 426, 99999, 426);
        DutyCase free = told("adjust export p;model a 100 0 5;firm x;sell export x a 0 0 1 500;");
        dutyIs(free, 0, 99999, 99999, 99999, 99999);
        DutyCase one = told("model a 100 0 1;firm x;sell export x a 0 0 1 50;");
        one.set(2, 1);
        dutyIs(one, 0, 12000, 12000, 0, 0);
        rateAt200();
    }

    private void rateAt200() {
        DutyCase x = told("model a 102 0 0;firm x;profit 0;sell export x a 0 0 1 100;");
        dutyIs(x, 0, 200, 200, 0, 200);
        x.costs(0, 0, 101);
        dutyIs(x, 0, 100, 0, 0, 0);
    }

    // 30
    private void others() {
        DutyCase x = told(CASE);
        due("weighed by values", x.others(), 2704);
        x.silent(0, true);
        due("silent ones are left out", x.others(), 800);
        x.silent(1, true);
        due("without any", x.others(), 0);
        x.silent(0, false);
        x.silent(1, false);
        x.price(5, 161);
        due("rates of 0 are left out", x.others(), 3689);
        DutyCase free = told("adjust export p;model a 100 0 5;firm x;sell export x a 0 0 1 500;");
        due("values of 0", free.others(), 0);
    }

    // 31
    private void method() {
        DutyCase x = grouped();
        due("greatest, the first of several", x.method(0, 0), 0);
        due("least", x.method(0, 1), 2);
        x.set(1, 1);
        due("greatest with zeroing", x.method(0, 0), 1);
        due("least with zeroing", x.method(0, 1), 2);
        due("all alike: the first", x.method(1, 0), 0);
        due("all alike: the first", x.method(1, 1), 0);
        x.price(4, 109);
        x.silent(2, true);
        due("silent: by the others", x.method(2, 0), 1);
        due("silent: by the others", x.method(2, 1), 2);
        check.thrown(NO_WHAT, () -> x.method(0, 2), "no such what");
        check.thrown(NO_WHAT, () -> x.method(0, -1), "no such what");
        check.thrown(NO_SUCH, () -> x.method(4, 2), "no firm told first");
    }

    // 32
    private void undertaking() {
        DutyCase x = told(CASE);
        due("the least", x.undertaking(1), 9);
        x.silent(1, true);
        due("as it would be, were it not silent", x.undertaking(1), 9);
        x.price(5, 160);
        due("0", x.undertaking(1), 0);
        check.thrown(CANNOT_BE, () -> told(EMPTY).undertaking(0), "no exports");
        check.thrown(NO_SUCH, () -> x.undertaking(2), "no firm");
        DutyCase y = told("adjust export p;model a 9999 0 0;firm x;profit 99;sell export x a 0 0 1 5;");
        due("none", y.undertaking(0), NONE);
        y.set(4, 1);
        // Cost and profit are 10098: 10098 less n by n is below 2 in a hundred from 9901 on.
        due("from a net of 0", y.undertaking(0), 9901);
        y.set(4, 2);
        due("near the end", y.undertaking(0), 9999);
        y.set(4, 3);
        due("behind the end", y.undertaking(0), NONE);
        y.costs(0, 0, 9902);
        // 10199 less 9999 by 9999 is 200 in ten thousand, which is not below.
        due("just behind the end", y.undertaking(0), NONE);
        DutyCase z = grouped();
        due("of averages", z.undertaking(0), 5);
        z.set(0, 1);
        z.set(1, 1);
        due("with zeroing", z.undertaking(0), 12);
        DutyCase high = told("adjust export 0-9999*9;adjust home 0-9999*10;model a 1 0 0;firm x;"
                + "sell export x a 0 0 1 5000;sell home x a 0 0 1 9999;");
        due("net", high.sale(0, 8), 94991);
        due("home's is cut", high.sale(1, 8), 99999);
        high.price(1, 9);
        due("home's is not cut", high.sale(1, 8), 99999);
        due("to one near the greatest", high.undertaking(0), 3048);
    }

    // 33
    private void picked() {
        DutyCase x = told(EMPTY);
        due("none", x.picked(0), 0);
        x.put(1, 0, 0, 0, 0, 5, 98);
        due("none in others", x.picked(0), 0);
        x.put(1, 0, 1, 2, 11, 7, 100);
        due("not below 98 of a hundred", x.picked(0), 0);
        x.price(0, 97);
        due("below", x.picked(0), 1);
        x.price(0, 103);
        due("the other", x.picked(0), 1 << 11);
        x.put(1, 0, 1, 2, 4, 1, 100);
        due("100 are not below 98 of 101.25", x.picked(0), 1 << 11);
        x.price(2, 90);
        due("another", x.picked(0), 1 << 4);
        x.put(0, 0, 0, 0, 7, 1, 1);
        x.put(1, 1, 0, 0, 7, 1, 1);
        due("exports of it alone", x.picked(0), 1 << 4);
        check.thrown(NO_SUCH, () -> x.picked(4), "no firm");
        check.thrown(NO_SUCH, () -> x.picked(-1), "no firm");
    }

    // 34
    private void collected() {
        DutyCase x = told(CASE);
        due("deposit", x.collected(3, false), 368900);
        due("deposit, rounded down", x.collected(4, false), 166005);
        due("owed", x.collected(3, true), 290000);
        due("owed", x.collected(5, true), 60000);
        x.set(2, 1);
        x.price(3, 140);
        // The lesser duty is not what is deposited by: 110 and 245 less, by 1850.
        due("deposit by the rate", x.collected(3, false), x.duty(0, 1) * 140L);
        due("owed 0 at least", x.collected(3, true), 0);
        x.price(3, 100);
        x.set(0, 2);
        due("owed by method 2", x.collected(3, true), 240000);
        x.set(0, 1);
        x.set(3, 1);
        due("owed by months", x.collected(3, true), 240000);
        x.price(5, 149);
        x.put(1, 1, 2, 0, 0, 1, 161);
        // 66 by 906 are 728 in ten thousand.
        due("rounded down", x.collected(6, false), 11720);
        check.thrown(NO_NUMBER, () -> x.collected(0, true), "no export");
        check.thrown(NO_NUMBER, () -> x.collected(0, false), "no export");
        check.thrown(NO_SUCH, () -> x.collected(7, true), "no sale");
    }

    // 35
    private void back() {
        DutyCase x = told(CASE);
        due("back", x.back(0), 368900 + 166005 - 290000 - 245000);
        due("back", x.back(1), 800 * 75 - 60000);
        x.set(0, 2);
        due("by method 2", x.back(0), 334400 + 150480 - 240000 - 245000);
        x.silent(1, true);
        due("a silent one's rate", x.back(1), 3344 * 75 - 60000);
        due("without exports", told(EMPTY).back(0), 0);
        check.thrown(NO_SUCH, () -> x.back(2), "no firm");
        check.thrown(NO_SUCH, () -> x.back(-1), "no firm");
    }

    // 36
    private void weight() {
        DutyCase x = told(CASE);
        // Without 3: 245000 by 450000; without 4: 290000 by 1000000.
        due("of an export", x.weight(3), 5444 - 3689);
        due("of an export", x.weight(4), 2900 - 3689);
        // Without 0: worth 134 and 144; without 1: as it is.
        due("of one at home", x.weight(0), (340000 + 270000) * 100 / 14500 - 3689);
        due("of one that is not found", x.weight(1), 0);
        due("of the only one", x.weight(5), -800);
        x.silent(0, true);
        due("as if not silent", x.weight(3), 5444 - 3689);
        due("all is as it was", x.duty(1, 0), 800);
        due("all is as it was", x.count(3), 6);
        due("no act", x.count(10), 1);
        check.thrown(NO_SUCH, () -> x.weight(6), "no sale");
        check.thrown(NO_SUCH, () -> x.weight(-1), "no sale");
    }

    // 37
    private void heaviest() {
        DutyCase x = told(CASE);
        due("greatest", x.heaviest(0, false), 3);
        due("least", x.heaviest(0, true), 4);
        due("the only one", x.heaviest(1, false), 5);
        due("the only one", x.heaviest(1, true), 5);
        x.drop(3);
        x.drop(4);
        due("all alike: the first", x.heaviest(0, false), 0);
        due("all alike: the first", x.heaviest(0, true), 0);
        x.drop(0);
        due("the first that counts", x.heaviest(0, true), 1);
        due("none", told(EMPTY).heaviest(0, true), NONE);
        check.thrown(NO_SUCH, () -> x.heaviest(2, true), "no firm");
        check.thrown(NO_SUCH, () -> x.heaviest(-1, true), "no firm");
        DutyCase y = told(EMPTY);
        y.put(0, 0, 0, 0, 0, 1, 150);
        y.put(1, 0, 0, 0, 0, 20, 100);
        y.put(1, 0, 0, 0, 0, 1, 149);
        due("21 abroad: no base", y.base(0), NONE);
        due("one at home weighs by what base it makes", y.weight(0), 0);
        due("without the last there is a base", y.weight(2), 5000 - (11000 * 21 - 10000 * 20 - 14900) * 10000 / 214900);
        due("greatest", y.heaviest(0, false), 2);
    }

    // 38
    private void ranked() {
        DutyCase x = exporting(100, 100, 100, 100);
        x.price(0, 80);
        x.price(3, 40);
        int[] want = {3, 1, 2, 0};
        for (int k = 0; k < 4; k++) {
            due("ranked " + k, x.ranked(k), want[k]);
        }
        due("behind", x.ranked(4), NONE);
        due("ahead", x.ranked(-1), NONE);
        due("far behind", x.ranked(Integer.MAX_VALUE), NONE);
        x.drop(3);
        due("without a duty", x.ranked(3), 3);
        DutyCase y = told(CASE);
        y.set(2, 1);
        y.price(3, 150);
        due("by the lesser duty", y.ranked(0), 1);
    }

    private void writtenIs(DutyCase x, int firm, String want) {
        due("length of " + want, x.write(firm), want.length());
        StringBuilder b = new StringBuilder();
        for (int k = 0; k < x.count(11); k++) {
            b.append((char) x.octet(k));
        }
        if (!b.toString().equals(want)) {
            System.out.println("written is: " + b);
        }
        due("written: " + want, b.toString().equals(want), true);
    }

    // 39
    private void write() {
        DutyCase x = told(CASE);
        writtenIs(x, 0, "xy 36.89%");
        writtenIs(x, 1, "z 8.00%");
        x.silent(1, true);
        writtenIs(x, 1, "z 36.89% silent");
        x.put(1, 0, 0, 2, 2, 300, 100);
        writtenIs(x, 1, "z 0.00% silent negligible");
        x.silent(1, false);
        writtenIs(x, 1, "z 0.00% negligible");
        DutyCase y = told("model a 307 0 0;profit 0;firm abcdef;sell export abcdef a 0 0 1 297;");
        writtenIs(y, 0, "abcdef 3.36%");
        y.price(0, 3);
        writtenIs(y, 0, "abcdef 999.99%");
        y.price(0, 100);
        y.costs(0, 0, 110);
        writtenIs(y, 0, "abcdef 10.00%");
        y.costs(0, 0, 200);
        writtenIs(y, 0, "abcdef 100.00%");
        y.price(0, 300);
        y.costs(0, 0, 309);
        writtenIs(y, 0, "abcdef 3.00%");
        y.put(1, 0, 0, 0, 0, 1, 287);
        y.price(0, 287);
        y.costs(0, 0, 296);
        writtenIs(y, 0, "abcdef 3.13%");
        y.price(1, 288);
        y.price(0, 288);
        y.costs(0, 0, 297);
        writtenIs(y, 0, "abcdef 3.12%");
        y.drop(1);
        y.price(0, 326);
        y.costs(0, 0, 336);
        writtenIs(y, 0, "abcdef 3.06%");
        check.thrown(NO_SUCH, () -> x.write(2), "no firm");
        check.thrown(NO_SUCH, () -> x.write(-1), "no firm");
        due("what was written stays", x.count(11), 18);
    }

    // 40
    private void octet() {
        DutyCase x = told(CASE);
        due("without", x.octet(0), NONE);
        x.write(0);
        due("first", x.octet(0), 'x');
        due("a blank", x.octet(2), ' ');
        due("last", x.octet(8), '%');
        due("behind", x.octet(9), NONE);
        due("ahead", x.octet(-1), NONE);
        x.write(1);
        due("the latest", x.octet(0), 'z');
        due("behind", x.octet(7), NONE);
        x.set(0, 1);
        x.undo();
        due("it stays", x.octet(6), '%');
    }

    // 41
    private void count() {
        DutyCase x = told(CASE);
        x.drop(2);
        x.put(0, 0, 0, 0, 0, 1, 1);
        x.drop(6);
        x.set(0, 2);
        x.set(1, 1);
        x.set(2, 1);
        x.set(3, 1);
        x.set(4, 98);
        x.set(5, 97);
        x.silent(0, true);
        x.silent(1, true);
        x.write(1);
        int[] counts = {3, 2, 7, 5, 2, 1, 1, 1, 98, 97, 11, "z 0.00% silent".length(), 2};
        for (int what = 0; what < counts.length; what++) {
            due("count " + what, x.count(what), counts[what]);
        }
        due("none", x.count(13), NONE);
        due("none", x.count(-1), NONE);
        due("none", x.count(Integer.MAX_VALUE), NONE);
        due("none", x.count(Integer.MIN_VALUE), NONE);
    }
}
