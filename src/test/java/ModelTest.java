import java.lang.reflect.InvocationTargetException;
import java.lang.reflect.Method;
import java.nio.charset.StandardCharsets;
import java.nio.file.Files;
import java.nio.file.Path;
import java.util.ArrayList;
import java.util.Arrays;
import java.util.List;
import java.util.Random;
import java.util.regex.Matcher;
import java.util.regex.Pattern;

/** Calls RationOffice and Model alike, in runs drawn from fixed seeds, and compares every answer. */
public final class ModelTest {
    private static final int RUNS = 2500;
    private static final int CALLS = 160;
    private static final double MOST_BASKETS = 20000;
    private static final int[] STRANGE = {-1, 0, 1, 6, 50, 51, 99, 100, 399, 400, 401, 999, 1000, 9999, 10000, 99999,
        100000, Integer.MAX_VALUE, Integer.MIN_VALUE, Integer.MAX_VALUE - 1, 1 << 30};
    private static final String[] NAMES = {"a", "b", "pay", "kin", "zzzzzz", "abcdef", "g", "h", "sho", "sets", "giv",
        "n", "o", "p", "q", "r", "s", "t", "u", "v", "w", "x", "y", "z"};
    private static final Check check = new Check();

    private static final class Call {
        Method real;
        Method model;
        String[] parameters;
    }

    public static void main(String[] args) throws Exception {
        List<Call> queries = new ArrayList<>();
        List<Call> changes = new ArrayList<>();
        readCalls(queries, changes);
        for (int seed = 1; seed <= RUNS; seed++) {
            check.begin("run of seed " + seed);
            run(new Random(seed), queries, changes);
        }
        check.finish();
    }

    private static void readCalls(List<Call> queries, List<Call> changes) throws Exception {
        String document = Files.readString(Path.of("../shared/DOC.md"), StandardCharsets.UTF_8);
        String face = document.substring(document.indexOf("```java"), document.indexOf("## Description"));
        Matcher matcher = Pattern.compile("public (?:int|boolean) (\\w+)\\(([^)]*)\\)").matcher(face);
        boolean change = false;
        while (matcher.find()) {
            Call call = new Call();
            String list = matcher.group(2).replace("int ", "").replace(" ", "");
            call.parameters = list.isEmpty() ? new String[0] : list.split(",");
            Class<?>[] types = new Class<?>[call.parameters.length];
            Arrays.fill(types, int.class);
            call.real = RationOffice.class.getMethod(matcher.group(1), types);
            call.model = Model.class.getDeclaredMethod(matcher.group(1), types);
            change |= call.real.getName().equals("buy");
            if (!call.real.getName().equals("load") && !call.real.getName().equals("feed")) {
                (change ? changes : queries).add(call);
            }
        }
    }

    private static void run(Random random, List<Call> queries, List<Call> changes) throws Exception {
        RationOffice real = new RationOffice();
        Model model = new Model();
        if (random.nextInt(50) > 0) {
            load(random, real, model, random.nextInt(6) == 0);
        }
        for (int count = 0; count < CALLS; count++) {
            int kind = random.nextInt(100);
            if (kind < 2) {
                load(random, real, model, random.nextInt(4) > 0);
            } else {
                List<Call> calls = kind < 35 ? changes : queries;
                answer(random, real, model, calls.get(random.nextInt(calls.size())));
            }
        }
    }

    private static void answer(Random random, RationOffice real, Model model, Call call) throws Exception {
        Object[] arguments = new Object[call.parameters.length];
        for (int index = 0; index < arguments.length; index++) {
            arguments[index] = argument(random, call.parameters[index], model);
        }
        String name = call.real.getName();
        if (name.startsWith("basket") && isTooLong(model, (Integer) arguments[0], (Integer) arguments[1])) {
            return;
        }
        String text = name + Arrays.toString(arguments);
        Object got = invoke(call.real, real, arguments);
        Object want = invoke(call.model, model, arguments);
        check.due(text + " answered " + got + ", due is " + want + ": the same", got.equals(want), true);
    }

    private static boolean isTooLong(Model model, int house, int shop) {
        return house >= 0 && house < model.houseCount() && shop >= 0 && shop < model.shopCount()
            && model.baskets(house, shop) > MOST_BASKETS && !model.isSuspended(shop);
    }

    private static Object invoke(Method method, Object object, Object[] arguments) throws Exception {
        try {
            return method.invoke(object, arguments);
        } catch (InvocationTargetException thrown) {
            return thrown.getCause().getClass().getName();
        }
    }

    private static Object argument(Random random, String parameter, Model model) {
        if (random.nextInt(40) == 0) {
            return STRANGE[random.nextInt(STRANGE.length)];
        }
        boolean large = random.nextInt(4) == 0;
        switch (parameter) {
            case "house":
            case "from":
            case "to":
                return random.nextInt(Math.max(1, model.houseCount()));
            case "group":
                return random.nextInt(Math.max(1, model.groupCount()));
            case "good":
                return random.nextInt(Math.max(1, model.goodCount()));
            case "shop":
                return random.nextInt(Math.max(1, model.shopCount()));
            case "letters":
                return Texts.letters(NAMES[random.nextInt(NAMES.length)]);
            case "what":
            case "left":
                return random.nextInt(6);
            case "setting":
                return random.nextInt(3);
            case "periods":
                return random.nextInt(large ? 51 : 8);
            case "wanted":
                return random.nextInt(large ? 1000 : 150);
            case "each":
                return random.nextInt(large ? 200 : 30);
            case "units":
                return 1 + random.nextInt(large ? 60 : 8);
            case "count":
                return 1 + random.nextInt(large ? 60 : 12);
            case "counted":
                return random.nextInt(large ? 60 : 20);
            case "ration":
                return random.nextInt(large ? 100 : 12);
            case "size":
                return 1 + random.nextInt(9);
            case "value":
                return random.nextInt(large ? 1000 : 40);
            default:
                throw new IllegalStateException(parameter);
        }
    }

    private static void load(Random random, RationOffice real, Model model, boolean spoilt) {
        String text = new OfficeText(random, NAMES).write();
        for (int times = spoilt ? 1 + random.nextInt(2) : 0; times > 0; times--) {
            text = OfficeText.spoil(random, text, NAMES);
        }
        byte[] bytes = text.getBytes(StandardCharsets.ISO_8859_1);
        for (int at = 0; at < bytes.length; at += 20) {
            int[] words = new int[5];
            for (int index = 0; index < 20; index++) {
                int one = at + index < bytes.length ? bytes[at + index] & 255 : random.nextInt(256);
                words[index / 4] |= one << (24 - 8 * (index % 4));
            }
            check.due("feed", real.feed(words[0], words[1], words[2], words[3], words[4]),
                model.feed(words[0], words[1], words[2], words[3], words[4]));
        }
        int length = random.nextInt(20) == 0 ? random.nextInt(900) - 20 : Math.min(800, bytes.length);
        check.due("load(" + length + ") of " + text, real.load(length), model.load(length));
        check.due("errorPosition of " + text, real.errorPosition(), model.errorPosition());
        check.due("undoCount", real.undoCount(), model.undoCount());
        if (random.nextInt(3) == 0) {
            check.due("load(0)", real.load(0), model.load(0));
        }
    }
}
