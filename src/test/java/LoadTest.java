/** Promises 1 to 18: a new object, the buffer, texts, and what they declare. */
public final class LoadTest {
    private static final Check check = new Check();
    private static final String GROUP = "group pay 5 1 50;";

    public static void main(String[] args) {
        newObject();
        feed();
        loadLengths();
        loadReplaces();
        loadKeepsAllOnError();
        counts();
        tokens();
        syntax();
        ranges();
        names();
        duplicates();
        tooMany();
        firstError();
        named();
        properties();
        settings();
        check.finish();
    }

    private static void newObject() {
        check.begin("1 new object");
        RationOffice x = new RationOffice();
        check.due("groupCount", x.groupCount(), 0);
        check.due("goodCount", x.goodCount(), 0);
        check.due("houseCount", x.houseCount(), 0);
        check.due("shopCount", x.shopCount(), 0);
        check.due("period", x.period(), 0);
        check.due("undoCount", x.undoCount(), 0);
        check.due("undo", x.undo(), RationOffice.NOT_FOUND);
        check.due("errorPosition", x.errorPosition(), RationOffice.NOT_FOUND);
        check.due("give", x.getSetting(RationOffice.GIVE), 20);
        check.due("take", x.getSetting(RationOffice.TAKE), 20);
        check.due("tolerance", x.getSetting(RationOffice.TOLERANCE), 10);
        check.due("load(1)", x.load(1), RationOffice.BAD_VALUE);
        check.due("feed", x.feed(0, 0, 0, 0, 0), 20);
    }

    private static void feed() {
        check.begin("2 feed");
        RationOffice x = new RationOffice();
        for (int count = 20; count <= 800; count += 20) {
            check.due("feed to " + count, x.feed(0x20202020, 0x20202020, 0x20202020, 0x20202020, 0x20202020), count);
        }
        check.due("feed to 820", x.feed(0x3b3b3b3b, 0, 0, 0, 0), RationOffice.FULL);
        check.due("load(801)", x.load(801), RationOffice.BAD_VALUE);
        check.due("load(800)", x.load(800), 0);
        check.due("feed after load", x.feed(0x686f7573, 0x65206120, 0x333b0a7f, 0xff000000, 0x80808080), 20);
        check.due("bytes in their order", x.load(11), 1);
        check.due("size", x.sizeOf(0), 3);
        x.feed(0x20200a20, 0x20202020, 0x0a202020, 0xff202020, 0x20202020);
        check.due("a byte over 127", x.load(20), RationOffice.SYNTAX_ERROR);
        check.due("its position", x.errorPosition(), 12);
    }

    private static void loadLengths() {
        check.begin("3 load, length");
        RationOffice x = new RationOffice();
        Texts.feed(x, "house a 2;#");
        check.due("load(-1)", x.load(-1), RationOffice.BAD_VALUE);
        check.due("load(21)", x.load(21), RationOffice.BAD_VALUE);
        check.due("load(MIN)", x.load(Integer.MIN_VALUE), RationOffice.BAD_VALUE);
        check.due("load(10)", x.load(10), 1);
        check.due("the buffer is empty then", x.load(1), RationOffice.BAD_VALUE);
        check.due("houses stay", x.houseCount(), 1);
        check.due("load(0)", x.load(0), 0);
        check.due("houses go", x.houseCount(), 0);
        error(x, "house a 2;#", RationOffice.SYNTAX_ERROR, 10);
        check.due("the buffer is empty after an error", x.load(1), RationOffice.BAD_VALUE);
        check.due("the position stays behind BAD_VALUE", x.errorPosition(), 10);
        check.due("load(0)", x.load(0), 0);
        check.due("no position behind a load without an error", x.errorPosition(), RationOffice.NOT_FOUND);
    }

    private static void loadReplaces() {
        check.begin("3 load, all is new");
        RationOffice x = Texts.office("group pay 5 1 50;group kin 3 2 0;swap pay kin 2;good g pay 1 1;house h 2;"
            + "house i 1;shop s g 9;set give 1;set take 2;set tolerance 0;");
        x.buy(0, 0, 0, 3);
        x.deliver(0, 0, 2);
        x.trade(0, 1, 0, 1);
        x.audit(0, 0, 0);
        x.nextPeriod();
        check.due("undoCount", x.undoCount(), 5);
        String text = "group new 7 3 1;good n new 2 2;house o 3;house p 1;shop q;";
        for (int times = 0; times < 3; times++) {
            check.due("load", Texts.load(x, text), 5);
            allIsNew(x);
        }
        check.due("load of blanks", Texts.load(x, " \n\n  "), 0);
        check.due("goods", x.goodCount(), 0);
        check.due("the whole again", Texts.load(x, text), 5);
        allIsNew(x);
    }

    private static void allIsNew(RationOffice x) {
        check.due("period", x.period(), 0);
        check.due("undoCount", x.undoCount(), 0);
        check.due("undo", x.undo(), RationOffice.NOT_FOUND);
        check.due("give", x.getSetting(RationOffice.GIVE), 20);
        check.due("take", x.getSetting(RationOffice.TAKE), 20);
        check.due("tolerance", x.getSetting(RationOffice.TOLERANCE), 10);
        check.due("substitute", x.groupProperty(0, 3), RationOffice.NOT_FOUND);
        check.due("factor", x.groupProperty(0, 4), 0);
        check.due("stock", x.stockOf(0, 0), 0);
        check.due("account", x.accountOf(0, 0), 0);
        check.due("penalty", x.penaltyOf(0), 0);
        check.due("sold", x.soldBy(0, 0), 0);
        check.due("delivered", x.deliveredTo(0, 0), 0);
        check.due("issued", x.issued(0), 28);
        check.due("spent", x.spent(0), 0);
        check.due("lapsed", x.lapsed(0), 0);
        check.due("given", x.givenBy(0), 0);
        check.due("taken", x.takenBy(1), 0);
        check.due("coupons", x.coupons(0, 0), 21);
        check.due("coupons with 3 left", x.couponsWith(0, 0, 3), 21);
        check.due("a name that is gone", x.groupNamed(Texts.letters("pay")), RationOffice.NOT_FOUND);
    }

    private static void loadKeepsAllOnError() {
        check.begin("3 load, nothing changes on an error");
        RationOffice x = Texts.office(GROUP + "good g pay 1 1;house h 2;shop s g 9;set give 7;");
        x.buy(0, 0, 0, 3);
        error(x, "group other 1 1 1;house k 1;set give 3;house m", RationOffice.SYNTAX_ERROR, 46);
        check.due("undoCount", x.undoCount(), 1);
        check.due("groups", x.groupCount(), 1);
        check.due("name", x.groupNamed(Texts.letters("pay")), 0);
        check.due("ration", x.groupProperty(0, 0), 5);
        check.due("coupons", x.coupons(0, 0), 7);
        check.due("give", x.getSetting(RationOffice.GIVE), 7);
        check.due("undo", x.undo(), 0);
        check.due("coupons", x.coupons(0, 0), 10);
        check.due("issued", x.issued(0), 10);
    }

    private static void counts() {
        check.begin("5 to 8 counts");
        RationOffice x = Texts.office("group a 1 1 1;group b 1 1 1;group c 1 1 1;group d 1 1 1;good e a 1 1;good f a 1 1;"
            + "good g a 1 1;good h a 1 1;good i a 1 1;good j d 1 1;house k 1;house l 1;house m 1;house n 1;house o 1;"
            + "house p 1;shop q;shop r;shop s;shop t;");
        check.due("groupCount", x.groupCount(), 4);
        check.due("goodCount", x.goodCount(), 6);
        check.due("houseCount", x.houseCount(), 6);
        check.due("shopCount", x.shopCount(), 4);
        check.due("the last group's good", x.goodProperty(5, 0), 3);
    }

    private static void tokens() {
        check.begin("3 load, tokens");
        RationOffice x = new RationOffice();
        check.due("without blanks", Texts.load(x, "group pay5 1 50;good g pay1 99;house h9;shop s g4;"), 4);
        check.due("with many", Texts.load(x, "  group\n\npay \n 5 1\n50  ;\n"), 1);
        check.due("leading noughts", Texts.load(x, "group pay 0000000000000005 01 000;"), 1);
        check.due("their ration", x.groupProperty(0, 0), 5);
        check.due("nothing", Texts.load(x, ""), 0);
        error(x, "house a 1;\t", RationOffice.SYNTAX_ERROR, 10);
        error(x, "house a 1;\r\n", RationOffice.SYNTAX_ERROR, 10);
        error(x, "house a -1;", RationOffice.SYNTAX_ERROR, 8);
        error(x, "house aB 1;", RationOffice.SYNTAX_ERROR, 7);
        error(x, "House a 1;", RationOffice.SYNTAX_ERROR, 0);
        error(x, "house a 1.;", RationOffice.SYNTAX_ERROR, 9);
        error(x, "house a`1;", RationOffice.SYNTAX_ERROR, 7);
        error(x, "house a{1;", RationOffice.SYNTAX_ERROR, 7);
        error(x, "house a 1/;", RationOffice.SYNTAX_ERROR, 9);
        error(x, "house a 1:;", RationOffice.SYNTAX_ERROR, 9);
        error(x, "housea 1;", RationOffice.SYNTAX_ERROR, 0);
    }

    private static void syntax() {
        check.begin("3 load, SYNTAX_ERROR");
        RationOffice x = new RationOffice();
        error(x, ";", RationOffice.SYNTAX_ERROR, 0);
        error(x, "house a 1;;", RationOffice.SYNTAX_ERROR, 10);
        error(x, "5", RationOffice.SYNTAX_ERROR, 0);
        error(x, "give 5;", RationOffice.SYNTAX_ERROR, 0);
        error(x, "house a 1", RationOffice.SYNTAX_ERROR, 9);
        error(x, "house a 1 \n", RationOffice.SYNTAX_ERROR, 11);
        error(x, "house", RationOffice.SYNTAX_ERROR, 5);
        error(x, "house a 1 2;", RationOffice.SYNTAX_ERROR, 10);
        error(x, "house a b;", RationOffice.SYNTAX_ERROR, 8);
        error(x, "house abcdefg 1;", RationOffice.SYNTAX_ERROR, 6);
        check.due("six letters", Texts.load(x, "house abcdef 1;"), 1);
        for (String word : new String[] {"group", "swap", "good", "house", "shop", "set", "give", "take", "tolerance"}) {
            error(x, "house " + word + " 1;", RationOffice.SYNTAX_ERROR, 6);
            error(x, GROUP + "swap pay " + word + " 1;", RationOffice.SYNTAX_ERROR, 26);
            error(x, GROUP + "shop pa " + word + " 1;", RationOffice.SYNTAX_ERROR, 25);
        }
        check.due("words like them", Texts.load(x, "house sett 1;house tak 1;house giver 1;house goods 1;"), 4);
        error(x, "group pay", RationOffice.SYNTAX_ERROR, 9);
        error(x, "group pay 1", RationOffice.SYNTAX_ERROR, 11);
        error(x, "group pay 1 1", RationOffice.SYNTAX_ERROR, 13);
        error(x, "group pay 1 1;", RationOffice.SYNTAX_ERROR, 13);
        error(x, GROUP + "swap;", RationOffice.SYNTAX_ERROR, 21);
        error(x, GROUP + "swap abcdefg pay 1;", RationOffice.SYNTAX_ERROR, 22);
        error(x, GROUP + "good g 5 1 1;", RationOffice.SYNTAX_ERROR, 24);
        error(x, GROUP + "good g abcdefg 1 1;", RationOffice.SYNTAX_ERROR, 24);
        error(x, GROUP + "good g pay 1;", RationOffice.SYNTAX_ERROR, 29);
        error(x, GROUP + "good g pay 1 1;shop s g;", RationOffice.SYNTAX_ERROR, 40);
        error(x, GROUP + "good g pay 1 1;shop s 3;", RationOffice.SYNTAX_ERROR, 39);
        error(x, GROUP + "good g pay 1 1;shop s g 3", RationOffice.SYNTAX_ERROR, 42);
        error(x, "set gives 3;", RationOffice.SYNTAX_ERROR, 4);
        error(x, "set 3;", RationOffice.SYNTAX_ERROR, 4);
        error(x, "set;", RationOffice.SYNTAX_ERROR, 3);
        error(x, "set give;", RationOffice.SYNTAX_ERROR, 8);
        error(x, "set give give;", RationOffice.SYNTAX_ERROR, 9);
    }

    private static void ranges() {
        check.begin("3 load, RANGE_ERROR");
        range("group pay ", 0, 99, " 1 1;");
        range("group pay 1 ", 1, 4, " 1;");
        range("group pay 1 1 ", 0, 100, ";");
        range("group a 1 1 1;group b 1 1 1;swap a b ", 1, 9, ";");
        range("group a 1 1 1;good g a ", 1, 20, " 1;");
        range("group a 1 1 1;good g a 1 ", 0, 99, ";");
        range("house a ", 1, 9, ";");
        range("group a 1 1 1;good g a 1 1;shop s g ", 0, 9999, ";");
        range("set give ", 0, 999, ";");
        range("set take ", 0, 999, ";");
        range("set tolerance ", 0, 9999, ";");
    }

    private static void range(String before, int least, int greatest, String behind) {
        RationOffice x = new RationOffice();
        int position = before.length();
        check.due(before + least, Texts.load(x, before + least + behind) > 0, true);
        check.due(before + greatest, Texts.load(x, before + greatest + behind) > 0, true);
        error(x, before + (greatest + 1) + behind, RationOffice.RANGE_ERROR, position);
        error(x, before + "4294967297" + behind, RationOffice.RANGE_ERROR, position);
        error(x, before + "18446744073709551617" + behind, RationOffice.RANGE_ERROR, position);
        if (least > 0) {
            error(x, before + (least - 1) + behind, RationOffice.RANGE_ERROR, position);
        }
    }

    private static void names() {
        check.begin("3 load, NAME_ERROR");
        RationOffice x = new RationOffice();
        String start = GROUP + "house h 1;good g pay 1 1;shop s;";
        int at = start.length();
        error(x, start + "swap h pay 1;", RationOffice.NAME_ERROR, at + 5);
        error(x, start + "swap pay g 1;", RationOffice.NAME_ERROR, at + 9);
        error(x, start + "swap no pay 1;", RationOffice.NAME_ERROR, at + 5);
        error(x, start + "good i h 1 1;", RationOffice.NAME_ERROR, at + 7);
        error(x, start + "good i i 1 1;", RationOffice.NAME_ERROR, at + 7);
        error(x, start + "good i late 1 1;group late 1 1 1;", RationOffice.NAME_ERROR, at + 7);
        error(x, start + "shop t pay 1;", RationOffice.NAME_ERROR, at + 7);
        error(x, start + "shop t t 1;", RationOffice.NAME_ERROR, at + 7);
        error(x, start + "shop t g 1 h 1;", RationOffice.NAME_ERROR, at + 11);
        error(x, start + "shop t pa 1;", RationOffice.NAME_ERROR, at + 7);
    }

    private static void duplicates() {
        check.begin("3 load, DUPLICATE_ERROR");
        RationOffice x = new RationOffice();
        String start = "group pay 1 1 1;group kin 1 1 1;good g pay 1 1;house h 1;shop s;";
        int at = start.length();
        for (String name : new String[] {"pay", "kin", "g", "h", "s"}) {
            error(x, start + "group " + name + " 1 1 1;", RationOffice.DUPLICATE_ERROR, at + 6);
            error(x, start + "good " + name + " pay 1 1;", RationOffice.DUPLICATE_ERROR, at + 5);
            error(x, start + "house " + name + " 1;", RationOffice.DUPLICATE_ERROR, at + 6);
            error(x, start + "shop " + name + ";", RationOffice.DUPLICATE_ERROR, at + 5);
        }
        error(x, start + "swap pay pay 1;", RationOffice.DUPLICATE_ERROR, at + 9);
        error(x, start + "swap pay kin 1;swap pay kin 1;", RationOffice.DUPLICATE_ERROR, at + 20);
        error(x, start + "swap kin pay 1;swap kin no 1;", RationOffice.DUPLICATE_ERROR, at + 20);
        check.due("each for the other", Texts.load(x, start + "swap pay kin 1;swap kin pay 2;"), 7);
        error(x, start + "shop t g 1 g 1;", RationOffice.DUPLICATE_ERROR, at + 11);
        error(x, start + "shop t g 0 g 0;", RationOffice.DUPLICATE_ERROR, at + 11);
        check.due("the good in another list", Texts.load(x, start + "shop t g 1;shop u g 2;"), 7);
        check.due("stock", x.stockOf(2, 0), 2);
        error(x, "set give 1;set take 1;set give 1;", RationOffice.DUPLICATE_ERROR, 26);
        error(x, "set take 1;set take 1;", RationOffice.DUPLICATE_ERROR, 15);
        error(x, "set tolerance 1;set tolerance;", RationOffice.DUPLICATE_ERROR, 20);
        String six = "group a 1 1 1;good b a 1 1;good c a 1 1;good d a 1 1;good e a 1 1;good f a 1 1;good g a 1 1;"
            + "shop s b 1 c 2 d 3 e 4 f 5 g 6";
        check.due("a list of all goods", Texts.load(x, six + ";"), 8);
        check.due("the last one's stock", x.stockOf(0, 5), 6);
        error(x, six + " b 7;", RationOffice.DUPLICATE_ERROR, six.length() + 1);
        error(x, six + " g 7;", RationOffice.DUPLICATE_ERROR, six.length() + 1);
        check.due("shop before the good", Texts.load(x, GROUP + "shop s;good g pay 1 1;"), 3);
        check.due("its stock", x.stockOf(0, 0), 0);
    }

    private static void tooMany() {
        check.begin("3 load, COUNT_ERROR");
        RationOffice x = new RationOffice();
        many(x, "", "group ", " 1 1 1;", 4);
        many(x, GROUP, "good ", " pay 1 1;", 6);
        many(x, "", "house ", " 1;", 6);
        many(x, "", "shop ", ";", 4);
    }

    private static void many(RationOffice x, String start, String word, String rest, int most) {
        StringBuilder text = new StringBuilder(start);
        for (int index = 0; index < most; index++) {
            text.append(word).append((char) ('a' + index)).append(rest);
        }
        check.due("as many as may be", Texts.load(x, text.toString()) > 0, true);
        error(x, text + word + "z" + rest, RationOffice.COUNT_ERROR, text.length());
        error(x, text + word + "a" + rest, RationOffice.COUNT_ERROR, text.length());
        error(x, text + word.trim(), RationOffice.COUNT_ERROR, text.length());
    }

    private static void firstError() {
        check.begin("3 load, the first error");
        RationOffice x = new RationOffice();
        error(x, "house a 0;house a #", RationOffice.RANGE_ERROR, 8);
        error(x, "house a 1;house a 0;", RationOffice.DUPLICATE_ERROR, 16);
        error(x, "group pay 100 0 101;", RationOffice.RANGE_ERROR, 10);
        error(x, "swap no so 0;", RationOffice.NAME_ERROR, 5);
        error(x, "house a 1;house", RationOffice.SYNTAX_ERROR, 15);
    }

    private static void named() {
        check.begin("11 to 14 named");
        RationOffice x = Texts.office("group z 1 1 1;group abcdef 1 1 1;good zz z 1 1;good ab z 1 1;house ba 1;house c 1;"
            + "shop zzzzzz;shop d;");
        check.due("z", x.groupNamed(26 << 25), 0);
        check.due("abcdef", x.groupNamed((1 << 25) + (2 << 20) + (3 << 15) + (4 << 10) + (5 << 5) + 6), 1);
        check.due("zz as group", x.groupNamed(Texts.letters("zz")), RationOffice.NOT_FOUND);
        check.due("zz", x.goodNamed((26 << 25) + (26 << 20)), 0);
        check.due("ab", x.goodNamed((1 << 25) + (2 << 20)), 1);
        check.due("z as good", x.goodNamed(26 << 25), RationOffice.NOT_FOUND);
        check.due("ba", x.houseNamed((2 << 25) + (1 << 20)), 0);
        check.due("c", x.houseNamed(3 << 25), 1);
        check.due("c to the right", x.houseNamed(3), RationOffice.NOT_FOUND);
        check.due("zzzzzz", x.shopNamed(Texts.letters("zzzzzz")), 0);
        check.due("d", x.shopNamed(4 << 25), 1);
        int[] strange = {0, -1, Integer.MIN_VALUE, 1 << 30, (26 << 25) | (1 << 30), (26 << 25) | (1 << 31)};
        for (int letters : strange) {
            check.due("groupNamed " + letters, x.groupNamed(letters), RationOffice.NOT_FOUND);
            check.due("goodNamed " + letters, x.goodNamed(letters), RationOffice.NOT_FOUND);
            check.due("houseNamed " + letters, x.houseNamed(letters), RationOffice.NOT_FOUND);
            check.due("shopNamed " + letters, x.shopNamed(letters), RationOffice.NOT_FOUND);
        }
    }

    private static void properties() {
        check.begin("15 to 17 properties");
        RationOffice x = Texts.office("group a 11 2 33;group b 99 4 100;swap a b 7;good g b 20 99;good h a 3 4;house i 9;"
            + "house j 1;");
        int[] ofFirst = {11, 2, 33, 1, 7};
        int[] ofSecond = {99, 4, 100, RationOffice.NOT_FOUND, 0};
        for (int what = 0; what < 5; what++) {
            check.due("groupProperty(0, " + what, x.groupProperty(0, what), ofFirst[what]);
            check.due("groupProperty(1, " + what, x.groupProperty(1, what), ofSecond[what]);
        }
        int[] ofGood = {1, 20, 99};
        for (int what = 0; what < 3; what++) {
            check.due("goodProperty(0, " + what, x.goodProperty(0, what), ofGood[what]);
        }
        check.due("goodProperty(1, 0)", x.goodProperty(1, 0), 0);
        check.due("groupProperty(0, 5)", x.groupProperty(0, 5), RationOffice.BAD_VALUE);
        check.due("groupProperty(0, -1)", x.groupProperty(0, -1), RationOffice.BAD_VALUE);
        check.due("goodProperty(0, 3)", x.goodProperty(0, 3), RationOffice.BAD_VALUE);
        check.due("goodProperty(0, -1)", x.goodProperty(0, -1), RationOffice.BAD_VALUE);
        check.due("sizeOf(0)", x.sizeOf(0), 9);
        check.due("sizeOf(1)", x.sizeOf(1), 1);
        for (int index : new int[] {2, -1, 4, 6, Integer.MAX_VALUE, Integer.MIN_VALUE}) {
            check.outOfBounds("groupProperty(" + index, () -> x.groupProperty(index, 9));
            check.outOfBounds("goodProperty(" + index, () -> x.goodProperty(index, 9));
            check.outOfBounds("sizeOf(" + index, () -> x.sizeOf(index));
        }
    }

    private static void settings() {
        check.begin("18 getSetting");
        RationOffice x = Texts.office("set tolerance 9999;set take 3;");
        check.due("give", x.getSetting(0), 20);
        check.due("take", x.getSetting(1), 3);
        check.due("tolerance", x.getSetting(2), 9999);
        check.due("3", x.getSetting(3), RationOffice.BAD_VALUE);
        check.due("-1", x.getSetting(-1), RationOffice.BAD_VALUE);
    }

    private static void error(RationOffice x, String text, int code, int position) {
        check.due(text, Texts.load(x, text), code);
        check.due("position in " + text, x.errorPosition(), position);
    }
}
