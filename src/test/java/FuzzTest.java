import java.lang.reflect.InvocationTargetException;
import java.lang.reflect.Method;
import java.lang.reflect.Modifier;
import java.util.Arrays;
import java.util.Comparator;
import java.util.Random;

/** No call throws, whatever the text, the tape and the arguments are; a fault stands at the first place. */
final class FuzzTest {
    private static final int[] EXTREMES = {Integer.MIN_VALUE, Integer.MIN_VALUE + 1, -1000000000, -257, -3, -2, -1, 0, 1, 2, 3, 5, 7,
        11, 12, 13, 20, 21, 40, 59, 60, 61, 99, 100, 101, 255, 256, 1600, 9999, 1000000000, Integer.MAX_VALUE - 1, Integer.MAX_VALUE};
    private static final String SIGNS = " \n;()[]<>=+-*/,0123456789abchnorst\t\u0000\u00ff?A";

    private FuzzTest() {
    }

    static void runAll() throws IllegalAccessException {
        Random chance = new Random(4711);
        for (int i = 0; i < 3000; i++) {
            changedTown(chance);
        }
        for (int i = 0; i < 150; i++) {
            anyCalls(chance);
        }
    }

    private static void changedTown(Random chance) {
        StringBuilder text = new StringBuilder(TownMaker.make(chance, 1).text);
        for (int changes = 1 + chance.nextInt(3); changes > 0; changes--) {
            int place = chance.nextInt(text.length() + 1);
            char sign = SIGNS.charAt(chance.nextInt(SIGNS.length()));
            switch (chance.nextInt(3)) {
                case 0: text.insert(place, sign); break;
                case 1: text.setCharAt(Math.min(place, text.length() - 1), sign); break;
                default: text.delete(place, Math.min(text.length(), place + 1 + chance.nextInt(6))); break;
            }
            if (text.length() == 0 || text.length() > 1600) {
                return;
            }
        }
        WageHats x = new WageHats();
        int statements = Texts.town(x, text.toString());
        int place = x.fault(1);
        if (statements >= 0) {
            Check.due("no fault: " + text, x.fault(0), 0);
            return;
        }
        Check.due("a fault: " + text, x.fault(0) >= 1 && x.fault(0) <= 5 && place >= 0 && place <= text.length(), true);
        aheadOfTheFault(text.toString(), place);
    }

    /** The text up to a fault has none but that it ends too soon; if it ends in a word, that is one no more. */
    private static void aheadOfTheFault(String text, int place) {
        boolean midWord = place > 0 && TownMaker.isWordSign(text.charAt(place - 1));
        WageHats x = new WageHats();
        int statements = Texts.town(x, text.substring(0, place));
        if (!midWord) {
            Check.due("up to its fault at " + place + ": " + text, statements >= 0 || x.fault(0) == 1 && x.fault(1) == place, true);
        }
    }

    private static void anyCalls(Random chance) throws IllegalAccessException {
        Method[] face = Arrays.stream(WageHats.class.getDeclaredMethods())
                .filter(m -> Modifier.isPublic(m.getModifiers()))
                .sorted(Comparator.comparing(Method::getName)).toArray(Method[]::new);
        WageHats x = new WageHats();
        if (chance.nextInt(5) > 0) {
            Texts.town(x, TownMaker.make(chance, 1).text);
        }
        for (int i = 0; i < 300; i++) {
            Method method = face[chance.nextInt(face.length)];
            if (method.getName().equals("town") && chance.nextInt(8) > 0) {
                continue;
            }
            Object[] arguments = new Object[method.getParameterCount()];
            for (int k = 0; k < arguments.length; k++) {
                arguments[k] = chance.nextInt(3) > 0 ? chance.nextInt(5) - 1 : EXTREMES[chance.nextInt(EXTREMES.length)];
            }
            call(x, method, arguments);
        }
    }

    private static void call(WageHats x, Method method, Object[] arguments) throws IllegalAccessException {
        String told = method.getName() + Arrays.toString(arguments);
        try {
            method.invoke(x, arguments);
            Check.due(told, true, true);
        } catch (InvocationTargetException thrown) {
            Check.due(told + " threw " + thrown.getCause(), true, false);
        }
    }
}
