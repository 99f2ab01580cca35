import java.util.ArrayList;
import java.util.Collections;
import java.util.List;
import java.util.Random;

/** Writes texts for load by chance: right ones, and right ones spoilt at one place. */
final class OfficeText {
    private static final String[] WORDS = {"group", "swap", "good", "house", "shop", "set", "give", "take", "tolerance",
        ";", "0", "1", "9", "10", "20", "21", "99", "100", "101", "10000", "99999999999999999999", "abcdefg", "#"};
    private final Random random;
    private final List<String> free = new ArrayList<>();
    private final StringBuilder text = new StringBuilder();

    OfficeText(Random random, String[] names) {
        this.random = random;
        free.addAll(List.of(names));
        Collections.shuffle(free, random);
    }

    String write() {
        boolean small = random.nextInt(3) > 0;
        List<String> groups = take(random.nextInt(20) == 0 ? 0 : 1 + random.nextInt(4));
        for (String group : groups) {
            statement("group", group, random.nextInt(small ? 12 : 100), 1 + random.nextInt(4), percent());
        }
        swaps(groups);
        List<String> goods = groups.isEmpty() ? List.of() : take(random.nextInt(7));
        for (String good : goods) {
            statement("good", good, groups.get(random.nextInt(groups.size())), 1 + random.nextInt(small ? 6 : 20),
                random.nextInt(random.nextBoolean() ? 100 : 8));
        }
        for (String house : take(random.nextInt(7))) {
            statement("house", house, 1 + random.nextInt(small ? 4 : 9));
        }
        for (String shop : take(random.nextInt(5))) {
            shop(shop, goods);
        }
        String[] settings = {"give", "take", "tolerance"};
        for (String setting : settings) {
            if (random.nextInt(3) == 0) {
                statement("set", setting, random.nextInt(random.nextBoolean() ? 1000 : 60));
            }
        }
        return text.toString();
    }

    private int percent() {
        int[] some = {0, 50, 100, 33};
        return random.nextBoolean() ? some[random.nextInt(4)] : random.nextInt(101);
    }

    private List<String> take(int count) {
        List<String> names = new ArrayList<>(free.subList(0, count));
        free.subList(0, count).clear();
        return names;
    }

    private void swaps(List<String> groups) {
        for (String group : groups) {
            String other = groups.get(random.nextInt(groups.size()));
            if (random.nextInt(3) > 0 && !other.equals(group)) {
                statement("swap", group, other, 1 + random.nextInt(random.nextBoolean() ? 9 : 3));
            }
        }
    }

    private void shop(String shop, List<String> goods) {
        List<Object> tokens = new ArrayList<>(List.of("shop", shop));
        List<String> listed = new ArrayList<>(goods);
        Collections.shuffle(listed, random);
        for (String good : listed) {
            if (random.nextInt(5) > 0) {
                tokens.add(good);
                tokens.add(random.nextInt(random.nextInt(4) == 0 ? 10000 : 40));
            }
        }
        statement(tokens.toArray());
    }

    private void statement(Object... tokens) {
        String before = "";
        for (Object token : tokens) {
            text.append(before).append(token);
            before = random.nextInt(12) == 0 ? " \n " : " ";
        }
        text.append(random.nextInt(5) == 0 ? " ;\n" : ";");
    }

    /** Puts in, leaves out or exchanges a token, or cuts the text off, or puts in any character. */
    static String spoil(Random random, String text, String[] names) {
        int at = random.nextInt(text.length() + 1);
        int kind = random.nextInt(6);
        if (kind == 0) {
            return text.substring(0, at);
        }
        if (kind == 1) {
            return text.substring(0, at) + (char) random.nextInt(256) + text.substring(at);
        }
        String word = random.nextInt(3) == 0 ? names[random.nextInt(names.length)]
            : WORDS[random.nextInt(WORDS.length)];
        int start = Math.max(0, text.lastIndexOf(' ', at));
        int end = text.indexOf(' ', start + 1);
        String rest = end < 0 ? "" : text.substring(end);
        if (kind == 2) {
            return text.substring(0, start) + " " + word + text.substring(start);
        }
        if (kind == 3) {
            return text.substring(0, start) + rest;
        }
        return text.substring(0, start) + " " + word + rest;
    }
}
