import java.lang.reflect.InvocationTargetException;
import java.lang.reflect.Method;
import java.util.ArrayList;
import java.util.Arrays;
import java.util.List;

/** Every call with mixtures of small, large and bordering arguments, held against the model: the fewer it has, the more values. */
public final class ExtremesTest {
    private static final int[] FEW = {Integer.MIN_VALUE, -1, 0, 1, 3, Integer.MAX_VALUE};
    private static final int[] SOME = {Integer.MIN_VALUE, -1, 0, 1, 2, 3, 4, 5, 6, 7, 12, 13, 16, 17, 60, 61, 999, 1000, Integer.MAX_VALUE};
    private static final int[] MORE = {Integer.MIN_VALUE, -2, -1, 0, 1, 2, 3, 4, 5, 6, 7, 8, 9, 10, 11, 12, 13, 16, 17, 20, 21, 59, 60, 61, 98, 99,
        100, 149, 150, 151, 299, 300, 301, 899, 900, 901, 998, 999, 1000, 9980, 9981, 9998, 9999, 10000, Integer.MAX_VALUE};
    private static final String TOWN = "most 2;life 90;name s worth 30;name t;name u worth 0;person a born 1730 of s coins 40;person b born 1740 of s;"
            + "person c born 1770 of t coins 35;person d born 1785;person e born 1720 miser;wed a b;likes c u s;waits d for s;child c of b a;";
    private static final int CALLS = 150;

    private NineNames x;
    private Model model;
    private int made;

    public static void main(String[] args) throws ReflectiveOperationException {
        ExtremesTest test = new ExtremesTest();
        for (Method m : NineNames.class.getDeclaredMethods()) {
            if (java.lang.reflect.Modifier.isPublic(m.getModifiers())) {
                test.renew();
                test.mixtures(m, new ArrayList<>());
            }
        }
        Check.end();
    }

    private void renew() {
        x = Check.with(TOWN, "any;loop 3;year 1;birth a c;end;");
        model = new Model();
        Check.feed(model, TOWN);
        model.town(TOWN.length());
        Check.feed(model, "any;loop 3;year 1;birth a c;end;");
        model.centuries("any;loop 3;year 1;birth a c;end;".length());
        x.tray(0, 0, 60);
        model.tray(0, 0, 60);
        x.tray(1, 0, 7);
        model.tray(1, 0, 7);
        x.tray(2, 3, 3);
        model.tray(2, 3, 3);
        made = 0;
    }

    private void mixtures(Method m, List<Object> with) throws ReflectiveOperationException {
        Class<?>[] types = m.getParameterTypes();
        if (with.size() == types.length) {
            call(m, with.toArray());
            return;
        }
        Class<?> type = types[with.size()];
        if (type == boolean.class) {
            for (boolean is : new boolean[] {true, false}) {
                one(m, with, is);
            }
        } else {
            for (int v : types.length > 3 ? FEW : types.length > 2 ? SOME : MORE) {
                one(m, with, type == long.class ? (Object) (long) v : (Object) v);
            }
        }
    }

    private void one(Method m, List<Object> with, Object next) throws ReflectiveOperationException {
        with.add(next);
        mixtures(m, with);
        with.remove(with.size() - 1);
    }

    private void call(Method m, Object[] with) throws ReflectiveOperationException {
        if (++made > CALLS) {
            renew();
        }
        String row = m.getName() + Arrays.toString(with);
        Object want = Model.class.getMethod(m.getName(), m.getParameterTypes()).invoke(model, with);
        try {
            Object got = m.invoke(x, with);
            Check.due(row + " answered " + got + " for " + want, got.equals(want), true);
        } catch (InvocationTargetException e) {
            Check.due(row + " threw " + e.getCause(), 1, 0);
        }
        Check.due(row + ", its status", x.status(), model.status());
        Check.due(row + ", top", x.top(), model.top());
        Check.due(row + ", bottom", x.bottom(), model.bottom());
    }
}
