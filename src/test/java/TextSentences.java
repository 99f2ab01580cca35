/** TEXT FORMAT of the document's description, and promises 1 to 18. */
final class TextSentences {
    private static final int NOT_FOUND = RationOffice.NOT_FOUND;
    private static final int BAD_VALUE = RationOffice.BAD_VALUE;
    private static final int SYNTAX = RationOffice.SYNTAX_ERROR;
    private static final int RANGE = RationOffice.RANGE_ERROR;
    private static final int NAME = RationOffice.NAME_ERROR;
    private static final int DUPLICATE = RationOffice.DUPLICATE_ERROR;
    private static final int COUNT = RationOffice.COUNT_ERROR;
    private static final String[] RESERVED =
        {"group", "swap", "good", "house", "shop", "set", "give", "take", "tolerance"};
    /** Declares the names pay and kin (groups), g and i (goods), h and s. */
    private static final String START =
        "group pay 1 1 1;group kin 1 1 1;good g pay 1 1;good i kin 1 1;house h 1;shop s g 3;";
    private final Sentences s;

    TextSentences(Sentences sentences) {
        s = sentences;
    }

    void run() {
        s.section("TEXT FORMAT for load");
        tokens();
        blanks();
        otherCharacters();
        statements();
        names();
        nameSpace();
        swaps();
        lists();
        firstErrors();
        syntax();
        ranges();
        unknownNames();
        duplicates();
        tooMany();
        newObject();
        feed();
        load();
        loadError();
        loadLength();
        errorPosition();
        counts();
        undoCountAndPeriod();
        named();
        properties();
        sizeAndSetting();
    }

    private void tokens() {
        s.says("Tokens are words (maximal runs of the letters a to z), integers (maximal runs of decimal digits, read as "
            + "unsigned numbers of any length), and the character ';'.");
        RationOffice x = Texts.office("group az09 2 50;good gz az1 99;house h9;shop s gz4;set give7;");
        s.due("a word ends at a digit", x.groupProperty(0, 0), 9);
        s.due("both ends of the letters", x.groupNamed((1 << 25) + (26 << 20)), 0);
        s.due("a word and an integer", x.stockOf(0, 0), 4);
        s.due("the setting", x.getSetting(RationOffice.GIVE), 7);
        s.error("housea 1;", SYNTAX, 0);
        s.error("house a1 1;", SYNTAX, 9);
        s.error("house a12;", RANGE, 7);
        s.loads("house a 0123456789;", RANGE);
        s.loads("house a " + "0".repeat(700) + "9;", 1);
        s.error("house a " + "0".repeat(700) + "10;", RANGE, 8);
        s.error("house a " + "9".repeat(780) + ";", RANGE, 8);
        s.error("house a " + "0".repeat(780) + ";", RANGE, 8);
        for (String wrapped : new String[] {"257", "65537", "4294967297", "18446744073709551617", "2147483649",
            "9223372036854775809", "340282366920938463463374607431768211457"}) {
            s.error("house a " + wrapped + ";", RANGE, 8);
            s.error("set tolerance " + wrapped + "0000;", RANGE, 14);
        }
    }

    private void blanks() {
        s.says("Spaces (32) and newlines (10) may stand between tokens.");
        s.loads("", 0);
        s.loads(" ", 0);
        s.loads("\n", 0);
        s.loads(" ".repeat(800), 0);
        s.loads("\n".repeat(800), 0);
        s.loads("house a 1;" + " \n".repeat(395), 1);
        s.loads(" \n".repeat(395) + "house a 1;", 1);
        s.loads("house\na\n1\n;\n", 1);
        s.loads("  house \n a \n\n 1  ;  house b1;", 2);
        s.error("hou se a 1;", SYNTAX, 0);
        s.error("house a 1 0;", SYNTAX, 10);
        s.error("house a\n1\n0;", SYNTAX, 10);
    }

    private void otherCharacters() {
        s.says("Any other character is a token that is never allowed.");
        for (char sign = 0; sign < 256; sign++) {
            boolean blank = sign == ' ' || sign == '\n';
            if (blank) {
                s.loads("house a 1;" + sign, 1);
            } else {
                s.error("house a 1;" + sign, SYNTAX, 10);
            }
            atName(sign);
            beforeEnd(sign);
        }
    }

    private void atName(char sign) {
        String text = "house a" + sign + "1;";
        if (sign == ' ' || sign == '\n' || sign >= 'a' && sign <= 'z' || sign == '0') {
            s.loads(text, 1);
        } else {
            s.error(text, sign >= '1' && sign <= '9' ? RANGE : SYNTAX, 7);
        }
    }

    private void beforeEnd(char sign) {
        String text = "house a 1" + sign + ";";
        if (sign == ' ' || sign == '\n') {
            s.loads(text, 1);
        } else if (sign >= '0' && sign <= '9') {
            s.error(text, RANGE, 8);
        } else {
            s.error(text, SYNTAX, sign == ';' ? 10 : 9);
        }
    }

    private void statements() {
        s.says("text = { statement \";\" } statement = \"group\" name ration life carry | \"swap\" group group factor | "
            + "\"good\" name group rate value | \"house\" name size | \"shop\" name { good units } | \"set\" setting "
            + "integer setting = \"give\" | \"take\" | \"tolerance\"");
        s.loads("group z 1 1 1;", 1);
        s.loads(START + "swap pay kin 1;", 7);
        s.loads(START + "good z pay 1 1;", 7);
        s.loads(START + "house z 1;", 7);
        s.loads(START + "shop z;", 7);
        s.loads(START + "shop z i 1;", 7);
        s.loads(START + "shop z i 1 g 2;", 7);
        s.loads("set give 1;set take 1;set tolerance 1;", 3);
        s.error("group z 1 1;", SYNTAX, 11);
        s.error("group z 1 1 1 1;", SYNTAX, 14);
        s.error("set give 1 take 2;", SYNTAX, 11);
        s.error(START + "swap pay kin;", SYNTAX, START.length() + 12);
        s.error(START + "shop z i;", SYNTAX, START.length() + 8);
        s.error(START + "shop z 1;", SYNTAX, START.length() + 7);
        s.error("set house 1;", SYNTAX, 4);
        s.error("set tolera 1;", SYNTAX, 4);
        s.error("set tolerances 1;", SYNTAX, 4);
        for (String word : RESERVED) {
            s.error("x" + word.substring(1) + " a 1;", SYNTAX, 0);
            s.error(word.substring(0, word.length() - 1) + "x a 1;", SYNTAX, 0);
            s.error("set x" + word.substring(1) + " 1;", SYNTAX, 4);
        }
    }

    private void names() {
        s.says("A name is a word of 1 to 6 letters other than group, swap, good, house, shop, set, give, take and tolerance.");
        for (String word : RESERVED) {
            s.error("group " + word + " 1 1 1;", SYNTAX, 6);
            s.error(START + "good " + word + " pay 1 1;", SYNTAX, START.length() + 5);
            s.error("house " + word + " 1;", SYNTAX, 6);
            s.error("shop " + word + ";", SYNTAX, 5);
            s.error(START + "swap " + word + " kin 1;", SYNTAX, START.length() + 5);
            s.error(START + "good z " + word + " 1 1;", SYNTAX, START.length() + 7);
            s.error(START + "shop z g 1 " + word + " 1;", SYNTAX, START.length() + 11);
            if (word.length() < 6) {
                s.loads("house " + word + "s 1;", 1);
            }
            s.loads("house " + word.substring(0, word.length() > 6 ? 6 : word.length() - 1) + " 1;", 1);
        }
        s.error("house 1 1;", SYNTAX, 6);
        s.error("house ; 1;", SYNTAX, 6);
        for (String name : new String[] {"a", "z", "abcdef", "zzzzzz", "aa", "groups"}) {
            s.loads("house " + name + " 1;shop b;", 2);
        }
        for (String word : new String[] {"abcdefg", "zzzzzzz", "tolerances", "a".repeat(700)}) {
            s.error("house " + word + " 1;", SYNTAX, 6);
            s.error(START.substring(0, 16) + "swap " + word.substring(0, 7) + " pay 1;", SYNTAX, 21);
        }
    }

    private void nameSpace() {
        s.says("Groups, goods, houses and shops have one name space in common; behind their declarations they are given by "
            + "their names.");
        for (String name : new String[] {"pay", "kin", "g", "i", "h", "s"}) {
            s.error(START + "group " + name + " 1 1 1;", DUPLICATE, START.length() + 6);
            s.error(START + "good " + name + " pay 1 1;", DUPLICATE, START.length() + 5);
            s.error(START + "house " + name + " 1;", DUPLICATE, START.length() + 6);
            s.error(START + "shop " + name + ";", DUPLICATE, START.length() + 5);
        }
        s.loads(START + "group pa 1 1 1;good gg pa 1 1;house hh 1;shop ss gg 1;", 10);
        s.error("swap a b 1;group a 1 1 1;group b 1 1 1;", NAME, 5);
        s.error("group a 1 1 1;swap a b 1;group b 1 1 1;", NAME, 21);
        s.error("good g a 1 1;group a 1 1 1;", NAME, 7);
        s.error("shop s g 1;group a 1 1 1;good g a 1 1;", NAME, 7);
        s.loads("shop s;group a 1 1 1;good g a 1 1;", 3);
    }

    private void swaps() {
        s.says("The statement swap makes the second group the substitute of the first one.");
        RationOffice x = Texts.office("group a 1 1 1;group b 1 1 1;group c 1 1 1;swap c a 9;swap a b 1;");
        int[] substitutes = {1, NOT_FOUND, 0};
        int[] factors = {1, 0, 9};
        for (int group = 0; group < 3; group++) {
            s.due("substitute", x.groupProperty(group, 3), substitutes[group]);
            s.due("factor", x.groupProperty(group, 4), factors[group]);
        }
    }

    private void lists() {
        s.says("The list of a shop has the stocks of goods (0 to 9999 units); the other stocks are 0.");
        RationOffice x = Texts.office("group a 1 1 1;good g a 1 1;shop s g 9999;good i a 1 1;shop t i 0;shop u;shop v i 7 g 8;"
            + "good k a 1 1;");
        int[][] stocks = {{9999, 0, 0}, {0, 0, 0}, {0, 0, 0}, {8, 7, 0}};
        for (int shop = 0; shop < 4; shop++) {
            for (int good = 0; good < 3; good++) {
                s.due("stock in shop " + shop, x.stockOf(shop, good), stocks[shop][good]);
            }
        }
        s.error("group a 1 1 1;good g a 1 1;shop s g 10000;", RANGE, 36);
        s.error("group a 1 1 1;good g a 1 1;shop s g -1;", SYNTAX, 36);
    }

    private void firstErrors() {
        s.says("The first error in the order of the text is reported, at the position of the first character of its token.");
        s.error("house a 10;house a 1;", RANGE, 8);
        s.error("house a 1;house a 10;", DUPLICATE, 16);
        s.error("house a 1;  \n house   a 10;", DUPLICATE, 22);
        s.error("group a 100 5 101;", RANGE, 8);
        s.error("group a 99 5 101;", RANGE, 11);
        s.error("group a 99 4 101;", RANGE, 13);
        s.error("house a 10#", RANGE, 8);
        s.error("swap no so 10;", NAME, 5);
        s.error("house abcdefgh 10", SYNTAX, 6);
        s.says("If several errors apply to one token, the one listed first is reported.");
        s.error(START + "swap kin pay 1;swap kin kin 1;", DUPLICATE, START.length() + 20);
        String four = "group a 1 1 1;group b 1 1 1;group c 1 1 1;group d 1 1 1;";
        s.error(four + "house group 1;", SYNTAX, four.length() + 6);
        s.error(four + "house h group 1 1 1;", SYNTAX, four.length() + 8);
        s.error(four + "group", COUNT, four.length());
        s.error(four + "group a", COUNT, four.length());
        s.error(START + "good z pa 21 1;", NAME, START.length() + 7);
    }

    private void syntax() {
        s.says("SYNTAX_ERROR: the token is not allowed here; if the text ends too early, the position is its length.");
        String[][] forms = {{"group", "z", "1", "1", "1"}, {"swap", "pay", "kin", "1"}, {"good", "z", "pay", "1", "1"},
            {"house", "z", "1"}, {"shop", "z"}, {"shop", "z", "g", "1"}, {"shop", "z", "g", "1", "i", "1"},
            {"set", "give", "1"}, {"set", "take", "1"}, {"set", "tolerance", "1"}};
        for (String[] form : forms) {
            StringBuilder text = new StringBuilder(START);
            for (int index = 0; index < form.length; index++) {
                wrongTokens(text.toString(), form, index);
                text.append(form[index]).append(' ');
            }
            s.error(text.toString(), SYNTAX, text.length());
            s.error(text + "#", SYNTAX, text.length());
            s.loads(text + ";", 7);
            s.error(text + ";;", SYNTAX, text.length() + 1);
        }
        s.error("house z 1", SYNTAX, 9);
        s.error("house z 1\n\n", SYNTAX, 11);
        s.error("h", SYNTAX, 0);
        s.error("house", SYNTAX, 5);
        s.error("a".repeat(800), SYNTAX, 0);
        s.error(" ".repeat(795) + "house", SYNTAX, 800);
    }

    private void wrongTokens(String before, String[] form, int index) {
        int at = before.length();
        String token = form[index];
        boolean isInteger = token.equals("1");
        boolean endsList = form[0].equals("shop") && index >= 2 && !isInteger;
        s.error(before + "#" + token, SYNTAX, at);
        if (!endsList) {
            s.error(before + ";", SYNTAX, at);
        }
        s.error(before + (isInteger ? "z" : "1"), SYNTAX, at);
        s.error(before + "group", SYNTAX, index == 0 ? at + 5 : at);
        if (index > 0) {
            s.error(before, SYNTAX, at);
        }
        if (!isInteger) {
            s.error(before + "abcdefg", SYNTAX, at);
        }
    }

    private void ranges() {
        s.says("RANGE_ERROR: an integer is outside its range.");
        s.error("group z 100 1 1;", RANGE, 8);
        s.error("group z 1 0 1;", RANGE, 10);
        s.error("group z 1 5 1;", RANGE, 10);
        s.error("group z 1 1 101;", RANGE, 12);
        int at = START.length();
        s.error(START + "swap pay kin 0;", RANGE, at + 13);
        s.error(START + "swap pay kin 10;", RANGE, at + 13);
        s.error(START + "good z pay 0 1;", RANGE, at + 11);
        s.error(START + "good z pay 21 1;", RANGE, at + 11);
        s.error(START + "good z pay 1 100;", RANGE, at + 13);
        s.error("house z 0;", RANGE, 8);
        s.error("house z 10;", RANGE, 8);
        s.error(START + "shop z g 10000;", RANGE, at + 9);
        s.error(START + "shop z g 9999 i 10000;", RANGE, at + 16);
        s.error("set give 1000;", RANGE, 9);
        s.error("set take 1000;", RANGE, 9);
        s.error("set tolerance 10000;", RANGE, 14);
        s.loads("group z 99 4 100;group y 0 1 0;swap z y 9;swap y z 1;good g z 20 99;good i y 1 0;house h 9;house k 1;"
            + "shop s g 9999 i 0;set give 999;set take 999;set tolerance 9999;", 12);
        s.loads("set give 0;set take 0;set tolerance 0;", 3);
    }

    private void unknownNames() {
        s.says("NAME_ERROR: a name that is not that of a group or a good, respectively.");
        int at = START.length();
        for (String name : new String[] {"g", "h", "s", "z", "pa", "payy", "kinkin"}) {
            s.error(START + "swap " + name + " pay 1;", NAME, at + 5);
            s.error(START + "swap pay " + name + " 1;", NAME, at + 9);
            s.error(START + "good z " + name + " 1 1;", NAME, at + 7);
        }
        for (String name : new String[] {"pay", "h", "s", "z", "gg"}) {
            s.error(START + "shop z " + name + " 1;", NAME, at + 7);
            s.error(START + "shop z g 1 " + name + " 1;", NAME, at + 11);
            s.error(START + "shop z g 1 i 1 " + name + " 1;", NAME, at + 15);
        }
        s.error(START + "swap z z 1;", NAME, at + 5);
        s.error("swap a b 1;", NAME, 5);
        s.error("good g g 1 1;", NAME, 7);
        s.error("shop s g 1;", NAME, 7);
    }

    private void duplicates() {
        s.says("DUPLICATE_ERROR: a name that is already declared, in a group, good, house or shop statement; the first group "
            + "of a swap that has a substitute already; the second one that is the same as the first; a good that was "
            + "already given in the same list; the name of a setting that was already given.");
        int at = START.length();
        s.error("group a 1 1 1;group a 1 1 1;", DUPLICATE, 20);
        s.error("group a 1 1 1;good a a 1 1;", DUPLICATE, 19);
        s.error("house a 1;shop a;", DUPLICATE, 15);
        s.error("shop a;house a 1;", DUPLICATE, 13);
        s.error(START + "swap pay kin 1;swap pay kin 1;", DUPLICATE, at + 20);
        s.loads(START + "swap pay kin 1;swap kin pay 1;", 8);
        s.loads(START + "group z 1 1 1;swap pay kin 1;swap z kin 1;", 9);
        s.error(START + "swap pay pay 1;", DUPLICATE, at + 9);
        s.error(START + "shop z g 1 g 1;", DUPLICATE, at + 11);
        s.error(START + "shop z g 1 i 1 g 1;", DUPLICATE, at + 15);
        s.error(START + "shop z g 0 g", DUPLICATE, at + 11);
        String six = "group a 1 1 1;good b a 1 1;good c a 1 1;good d a 1 1;good e a 1 1;good f a 1 1;good g a 1 1;"
            + "shop s g 1 f 1 e 1 d 1 c 1 b 1 ";
        s.loads(six + ";", 8);
        s.error(six + "g 1;", DUPLICATE, six.length());
        s.error(six + "b 1;", DUPLICATE, six.length());
        s.error(six + "a 1;", NAME, six.length());
        s.error(six + "group 1;", SYNTAX, six.length());
        s.loads(START + "shop z g 1;shop y g 1;", 8);
        s.error("set give 1;set give 1;", DUPLICATE, 15);
        s.error("set take 20;set give 1;set take 20;", DUPLICATE, 27);
        s.error("set tolerance 1;set tolerance 10000;", DUPLICATE, 20);
    }

    private void tooMany() {
        s.says("COUNT_ERROR: the word group of a fifth group, good of a seventh good, house of a seventh house, or shop of a "
            + "fifth shop.");
        most("", "group ", " 1 1 1;", 4);
        most("group pay 1 1 1;", "good ", " pay 1 1;", 6);
        most("", "house ", " 1;", 6);
        most("", "shop ", ";", 4);
    }

    private void most(String before, String word, String behind, int count) {
        StringBuilder text = new StringBuilder(before);
        for (int index = 0; index < count; index++) {
            text.append(word).append((char) ('a' + index)).append(behind);
        }
        s.due(text.toString(), Texts.load(new RationOffice(), text.toString()) >= count, true);
        s.error(text + word + "z" + behind, COUNT, text.length());
        s.error(text + " " + word + "a" + behind, COUNT, text.length() + 1);
        s.error(text + word.trim(), COUNT, text.length());
    }

    private void newObject() {
        s.section("Promise 1");
        s.says("Creates an office without groups, goods, houses and shops, with initial settings, in period 0, with an empty "
            + "input buffer and no changes to undo.");
        RationOffice x = new RationOffice();
        s.due("counts", x.groupCount() + x.goodCount() + x.houseCount() + x.shopCount(), 0);
        s.due("period", x.period(), 0);
        s.due("GIVE", x.getSetting(RationOffice.GIVE), 20);
        s.due("TAKE", x.getSetting(RationOffice.TAKE), 20);
        s.due("TOLERANCE", x.getSetting(RationOffice.TOLERANCE), 10);
        s.due("nothing in the buffer", x.load(1), BAD_VALUE);
        s.due("undoCount", x.undoCount(), 0);
        s.due("undo", x.undo(), NOT_FOUND);
        s.due("a name", x.groupNamed(1 << 25), NOT_FOUND);
        s.outOfBounds("group 0", () -> x.issued(0));
        s.outOfBounds("good 0", () -> x.bestShop(0));
        s.outOfBounds("house 0", () -> x.sizeOf(0));
        s.outOfBounds("shop 0", () -> x.penaltyOf(0));
        s.due("no house to buy", x.buy(0, 0, 0, 1), NOT_FOUND);
        s.due("nextPeriod", x.nextPeriod(), 0);
        s.due("undo of it", x.undo(), 0);
    }

    private void feed() {
        s.section("Promise 2");
        s.says("Appends 20 bytes to the input buffer: the four bytes of each parameter, most significant byte first.");
        eachByte();
        s.says("first four bytes");
        RationOffice x = new RationOffice();
        x.feed(0x686f7573, 0x65206120, 0x31202020, 0x20202020, 0x20202020);
        s.due("the first is first", x.load(9), SYNTAX);
        s.due("and wants its end", x.errorPosition(), 9);
        s.says("FULL if the buffer would hold more than 800 bytes (nothing is appended then).");
        fillBuffer();
    }

    private void eachByte() {
        for (int at = 0; at < 20; at++) {
            RationOffice x = new RationOffice();
            int[] words = {0x20202020, 0x20202020, 0x20202020, 0x20202020, 0x20202020};
            words[at / 4] |= 0xff << 24 - at % 4 * 8;
            s.due("feed", x.feed(words[0], words[1], words[2], words[3], words[4]), 20);
            s.due("a bad byte at " + at, x.load(20), SYNTAX);
            s.due("its position", x.errorPosition(), at);
        }
    }

    private void fillBuffer() {
        RationOffice x = new RationOffice();
        for (int count = 20; count <= 800; count += 20) {
            s.due("feed", x.feed(0x20202020, 0x20202020, 0x20202020, 0x20202020, 0x20202020), count);
        }
        s.due("feed more", x.feed(0, 0, 0, 0, 0), RationOffice.FULL);
        s.due("feed more", x.feed(-1, -1, -1, -1, -1), RationOffice.FULL);
        s.due("820 bytes", x.load(820), BAD_VALUE);
        s.due("801 bytes", x.load(801), BAD_VALUE);
        s.due("still full", x.feed(0, 0, 0, 0, 0), RationOffice.FULL);
        s.due("800 bytes", x.load(800), 0);
        s.due("feed again", x.feed(0, 0, 0, 0, 0), 20);
    }

    private void load() {
        s.section("Promise 3");
        s.says("Replaces the office by the one described by the first length bytes of the input buffer (see TEXT FORMAT), "
            + "makes the first issue and empties the buffer.");
        RationOffice x = Towns.used();
        s.due("undoCount", x.undoCount(), 9);
        Texts.feed(x, "house a 1;house b 2;#");
        s.due("the first bytes", x.load(20), 2);
        s.due("houses", x.houseCount(), 2);
        s.due("no groups", x.groupCount(), 0);
        s.due("no shops", x.shopCount(), 0);
        s.due("period", x.period(), 0);
        s.due("the buffer is empty", x.load(1), BAD_VALUE);
        s.due("load of nothing", x.load(0), 0);
        s.due("no houses", x.houseCount(), 0);
        String again = Towns.FULL + "set give 5;set take 6;set tolerance 7;";
        String fresh = Tell.all(Texts.office(again));
        for (int times = 0; times < 4; times++) {
            s.due("load again", Texts.load(x, again), 25);
            s.same("as a new one", Tell.all(x), fresh);
            x.nextPeriod();
            x.buy(5, 0, 2, 20);
            x.deliver(0, 2, 9);
            x.trade(5, 0, 0, 3);
            x.audit(0, 0, 1);
        }
        for (int times = 0; times < 3; times++) {
            Texts.load(x, "group a 1 1 1;group b 1 1 1;good g a 1 1;house h 1;shop s;");
            s.due("no substitute from before", x.groupProperty(0, 3), NOT_FOUND);
            s.due("no factor from before", x.groupProperty(0, 4), 0);
            s.due("no settings from before", x.getSetting(RationOffice.TOLERANCE), 10);
        }
        Texts.load(x, Towns.FULL);
        s.same("as a new one", Tell.all(x), Tell.all(Towns.full()));
        s.due("issued", x.issued(0), 5 * 24);
        s.due("the buffer is empty", x.load(1), BAD_VALUE);
        s.says("After a successful load nothing can be undone.");
        RationOffice y = Towns.used();
        s.due("undoCount before", y.undoCount(), 9);
        s.due("load", y.load(0), 0);
        s.due("undoCount", y.undoCount(), 0);
        s.due("undo", y.undo(), NOT_FOUND);
        y.nextPeriod();
        s.due("undo of a later change", y.undo(), 0);
        s.due("undo", y.undo(), NOT_FOUND);
        s.says("Returns the number of statements;");
        s.loads(Towns.FULL, 4 + 2 + 6 + 6 + 4);
        s.loads(Towns.FULL + "swap c d 1;swap d a 1;set take 0;set give 999;set tolerance 0;", 27);
        s.loads("set give 1;", 1);
        s.loads("", 0);
    }

    private void loadError() {
        s.says("If the text has an error, nothing but the buffer changes: it is emptied all the same.");
        String[] texts = {"house", "house a 0;", "swap a b 1;", "house a 1;house a 1;", Towns.FULL + "shop z;", "#",
            "set give 0;set take 0;set tolerance 0;group a 0 1 0;group b 0 1 0;swap a b 1;;"};
        int[] codes = {SYNTAX, RANGE, NAME, DUPLICATE, COUNT, SYNTAX, SYNTAX};
        RationOffice x = Towns.used();
        String before = Tell.all(x);
        for (int index = 0; index < texts.length; index++) {
            s.due(texts[index], Texts.load(x, texts[index]), codes[index]);
            s.same("as before", Tell.all(x), before);
            s.due("undoCount", x.undoCount(), 9);
            s.due("the buffer is empty", x.load(1), BAD_VALUE);
        }
        s.due("undo", x.undo(), 8);
        RationOffice y = new RationOffice();
        Texts.load(y, Towns.FULL + ";");
        s.due("a new one stays new", y.groupCount() + y.houseCount(), 0);
        Texts.load(y, "group a 3 2 1;group b 2 1 0;swap a b 3;good g a 2 2;house h 4;shop s g 9;set give 3;;");
        Texts.load(y, "group a 1 1 1;group b 1 1 1;good g a 1 1;house h 1;shop s;");
        s.due("no substitute is left from a text with an error", y.groupProperty(0, 3), NOT_FOUND);
        s.due("no stock is left", y.stockOf(0, 0), 0);
        s.due("no setting is left", y.getSetting(RationOffice.GIVE), 20);
        s.due("no issue is left", y.issued(0), 1);
        s.says("SYNTAX_ERROR, RANGE_ERROR, NAME_ERROR, DUPLICATE_ERROR or COUNT_ERROR.");
        for (int index = 0; index < texts.length; index++) {
            s.loads(texts[index], codes[index]);
        }
    }

    private void loadLength() {
        s.says("number of bytes to read, from 0 to the number of bytes in the buffer");
        RationOffice x = new RationOffice();
        for (int length : new int[] {20, 19, 10, 1, 0}) {
            x.feed(0x20202020, 0x20202020, 0x20202020, 0x20202020, 0x20202020);
            s.due("load(" + length, x.load(length), 0);
        }
        s.due("0 of an empty buffer", x.load(0), 0);
        s.due("1 of an empty buffer", x.load(1), BAD_VALUE);
        x.feed(0x686f7573, 0x65206120, 0x333b2020, 0x20202020, 0x20202020);
        s.due("9 bytes", x.load(9), SYNTAX);
        s.due("at its end", x.errorPosition(), 9);
        s.says("BAD_VALUE if length is out of range (the buffer is unchanged then);");
        x.feed(0x686f7573, 0x65206120, 0x333b2020, 0x20202020, 0x20202020);
        for (int length : new int[] {-1, 21, 40, 800, 801, Integer.MAX_VALUE, Integer.MIN_VALUE}) {
            s.due("load(" + length, x.load(length), BAD_VALUE);
        }
        s.due("feed", x.feed(0x686f7573, 0x65206220, 0x343b2020, 0x20202020, 0x20202020), 40);
        s.due("load(41)", x.load(41), BAD_VALUE);
        s.due("load(40)", x.load(40), 2);
        s.due("the bytes that were there", x.sizeOf(0) * 10 + x.sizeOf(1), 34);
    }

    private void errorPosition() {
        s.section("Promise 4");
        s.says("Returns the position of the error of the latest load that did not return BAD_VALUE.");
        RationOffice x = new RationOffice();
        Texts.load(x, "house a 1;#");
        s.due("the position", x.errorPosition(), 10);
        x.load(1);
        x.load(-1);
        s.due("behind BAD_VALUE", x.errorPosition(), 10);
        Texts.load(x, "#");
        s.due("of the latest one, the first byte", x.errorPosition(), 0);
        Texts.load(x, "house a 1;" + " ".repeat(789) + "#");
        s.due("of the latest one, the last byte", x.errorPosition(), 799);
        Texts.load(x, "house a 1" + " ".repeat(791));
        s.due("of the latest one, behind the last byte", x.errorPosition(), 800);
        s.says("NOT_FOUND if that load had no error or there was none.");
        s.due("a new object", new RationOffice().errorPosition(), NOT_FOUND);
        x.load(0);
        s.due("no error", x.errorPosition(), NOT_FOUND);
        x.load(1);
        s.due("no error, then BAD_VALUE", x.errorPosition(), NOT_FOUND);
        RationOffice y = new RationOffice();
        y.load(1);
        s.due("only BAD_VALUE", y.errorPosition(), NOT_FOUND);
        Texts.load(y, ";");
        y.nextPeriod();
        y.undo();
        s.due("undo leaves it alone", y.errorPosition(), 0);
    }

    private void counts() {
        RationOffice none = new RationOffice();
        RationOffice one = Texts.office("group a 1 1 1;good g a 1 1;house h 1;shop s;");
        RationOffice all = Towns.full();
        s.section("Promise 5");
        s.says("Returns 0 to 4.");
        s.due("none, one, all", none.groupCount() * 100 + one.groupCount() * 10 + all.groupCount(), 14);
        s.section("Promise 6");
        s.says("Returns 0 to 6.");
        s.due("none, one, all", none.goodCount() * 100 + one.goodCount() * 10 + all.goodCount(), 16);
        s.section("Promise 7");
        s.says("Returns 0 to 6.");
        s.due("none, one, all", none.houseCount() * 100 + one.houseCount() * 10 + all.houseCount(), 16);
        s.section("Promise 8");
        s.says("Returns 0 to 4.");
        s.due("none, one, all", none.shopCount() * 100 + one.shopCount() * 10 + all.shopCount(), 14);
    }

    private void undoCountAndPeriod() {
        s.section("Promise 9");
        s.says("Returns 0 to 10.");
        RationOffice x = new RationOffice();
        s.due("0", x.undoCount(), 0);
        for (int change = 1; change <= 25; change++) {
            x.nextPeriod();
            s.due("behind " + change, x.undoCount(), Math.min(change, 10));
        }
        for (int left = 9; left >= 0; left--) {
            x.undo();
            s.due("undone", x.undoCount(), left);
        }
        x.undo();
        s.due("none", x.undoCount(), 0);
        s.section("Promise 10");
        s.says("Returns 0 or more.");
        s.due("ten of 25 undone", x.period(), 15);
        RationOffice y = Towns.full();
        for (int period = 0; period < 400; period++) {
            s.due("period", y.period(), period);
            y.nextPeriod();
        }
        y.load(1);
        s.due("behind 400", y.period(), 400);
        y.load(0);
        s.due("behind a load", y.period(), 0);
    }

    private void named() {
        RationOffice x = Texts.office("group a 1 1 1;group z 1 1 1;group ab 1 1 1;group zzzzzz 1 1 1;good g a 1 1;"
            + "good abcdef a 1 1;house h 1;house yxwvut 1;shop s;shop qq;");
        s.section("Promise 11");
        s.says("the name as six groups of 5 bits, the first letter in the highest group; a is 1, z is 26; unused groups at the "
            + "end are 0");
        s.due("a", x.groupNamed(1 << 25), 0);
        s.due("z", x.groupNamed(26 << 25), 1);
        s.due("ab", x.groupNamed((1 << 25) + (2 << 20)), 2);
        s.due("zzzzzz", x.groupNamed(26 * ((1 << 25) + (1 << 20) + (1 << 15) + (1 << 10) + (1 << 5) + 1)), 3);
        s.says("NOT_FOUND if there is none with that name.");
        noSuchNames(new String[] {"b", "aa", "abc", "zzzzz", "zzzzzy", "g", "h", "s", "abcdef"}, x::groupNamed);
        s.section("Promise 12");
        s.says("Returns the index of the good; NOT_FOUND if there is none with that name.");
        s.due("g", x.goodNamed(Texts.letters("g")), 0);
        s.due("abcdef", x.goodNamed(Texts.letters("abcdef")), 1);
        noSuchNames(new String[] {"a", "h", "s", "z", "gg", "abcde", "abcdeg"}, x::goodNamed);
        s.section("Promise 13");
        s.says("Returns the index of the house; NOT_FOUND if there is none with that name.");
        s.due("h", x.houseNamed(Texts.letters("h")), 0);
        s.due("yxwvut", x.houseNamed(Texts.letters("yxwvut")), 1);
        noSuchNames(new String[] {"a", "g", "s", "hh", "yxwvu", "yxwvuu"}, x::houseNamed);
        s.section("Promise 14");
        s.says("Returns the index of the shop; NOT_FOUND if there is none with that name.");
        s.due("s", x.shopNamed(Texts.letters("s")), 0);
        s.due("qq", x.shopNamed(Texts.letters("qq")), 1);
        noSuchNames(new String[] {"a", "g", "h", "q", "ss", "qqq"}, x::shopNamed);
    }

    private void noSuchNames(String[] names, java.util.function.IntUnaryOperator find) {
        for (String name : names) {
            s.due(name, find.applyAsInt(Texts.letters(name)), NOT_FOUND);
        }
        int[] strange = {0, 1, 31, -1, Integer.MIN_VALUE, Integer.MAX_VALUE, 1 << 30, (1 << 25) + 1, (1 << 25) + (1 << 30),
            (26 << 25) + (1 << 31), 31 << 25, (7 << 25) + (1 << 31), (8 << 25) + (1 << 30), (19 << 25) + (3 << 30)};
        for (int letters : strange) {
            s.due("letters " + letters, find.applyAsInt(letters), NOT_FOUND);
        }
        for (String word : RESERVED) {
            s.due(word, find.applyAsInt(Texts.letters(word)), NOT_FOUND);
        }
    }

    private void properties() {
        RationOffice x = Towns.full();
        int[][] groups = {{5, 1, 50, 1, 2}, {4, 2, 0, 2, 3}, {3, 3, 100, NOT_FOUND, 0}, {2, 4, 33, NOT_FOUND, 0}};
        int[][] goods = {{0, 1, 3}, {0, 2, 5}, {1, 1, 2}, {2, 3, 9}, {3, 1, 1}, {3, 20, 99}};
        s.section("Promise 15");
        s.says("0: ration; 1: life; 2: carry; 3: the index of the substitute, NOT_FOUND if there is none; 4: the factor, 0 if "
            + "there is no substitute");
        for (int group = 0; group < 4; group++) {
            for (int what = 0; what < 5; what++) {
                s.due("groupProperty(" + group + ", " + what, x.groupProperty(group, what), groups[group][what]);
            }
        }
        s.says("Returns the property; BAD_VALUE for any other what.");
        s.badIndex("what", 5, BAD_VALUE, what -> x.groupProperty(3, what));
        s.says("Throws `IndexOutOfBoundsException` if group is not a valid index (checked first)");
        s.index("group", 4, group -> x.groupProperty(group, 0));
        s.badIndex("group, bad what", 4, group -> x.groupProperty(group, 5));
        s.section("Promise 16");
        s.says("0: group; 1: rate; 2: value");
        for (int good = 0; good < 6; good++) {
            for (int what = 0; what < 3; what++) {
                s.due("goodProperty(" + good + ", " + what, x.goodProperty(good, what), goods[good][what]);
            }
        }
        s.says("Returns the property; BAD_VALUE for any other what.");
        s.badIndex("what", 3, BAD_VALUE, what -> x.goodProperty(5, what));
        s.says("Throws `IndexOutOfBoundsException` if good is not a valid index (checked first)");
        s.index("good", 6, good -> x.goodProperty(good, 0));
        s.badIndex("good, bad what", 6, good -> x.goodProperty(good, -1));
    }

    private void sizeAndSetting() {
        RationOffice x = Towns.full();
        s.section("Promise 17");
        s.says("Returns 1 to 9.");
        s.due("the least", x.sizeOf(0), 1);
        s.due("the greatest", x.sizeOf(5), 9);
        s.says("Throws `IndexOutOfBoundsException` if house is not a valid index");
        s.index("house", 6, house -> x.sizeOf(house));
        RationOffice few = Texts.office("house h 3;house i 4;");
        s.index("house of two", 2, house -> few.sizeOf(house));
        s.section("Promise 18");
        s.says("Returns the value; BAD_VALUE if setting is none of these.");
        s.due("GIVE", x.getSetting(0), 20);
        s.due("TAKE", x.getSetting(1), 20);
        s.due("TOLERANCE", x.getSetting(2), 10);
        s.badIndex("setting", 3, BAD_VALUE, setting -> x.getSetting(setting));
    }
}
