/** Brings texts into an office by feed and load, and names into the form that the office takes. */
final class Texts {
    private Texts() {
    }

    static RationOffice office(String text) {
        RationOffice office = new RationOffice();
        int answer = load(office, text);
        if (answer < 0) {
            throw new IllegalStateException("load answered " + answer + " at " + office.errorPosition() + ": " + text);
        }
        return office;
    }

    static int load(RationOffice office, String text) {
        feed(office, text);
        return office.load(text.length());
    }

    static void feed(RationOffice office, String text) {
        for (int at = 0; at < text.length(); at += 20) {
            office.feed(four(text, at), four(text, at + 4), four(text, at + 8), four(text, at + 12), four(text, at + 16));
        }
    }

    private static int four(String text, int at) {
        int word = 0;
        for (int index = at; index < at + 4; index++) {
            word = word << 8 | (index < text.length() ? text.charAt(index) & 255 : ' ');
        }
        return word;
    }

    static int letters(String name) {
        int code = 0;
        for (int index = 0; index < 6; index++) {
            code = code * 32 + (index < name.length() ? name.charAt(index) - '`' : 0);
        }
        return code;
    }
}
