/**
 * All texts of up to three characters, and all texts that come from longer ones by one character that
 * is changed, put in or left out: the class and the model must find the same items and faults.
 */
public final class ManyTextsTest {
    private static final String SIGNS = "01459ikrnolh+-*&|^<?:;/x ";
    private static final String[] SAMPLES = {
        "i-5:12;k-40", "r4095;0+1;1-0", "0*1;0&1;0|1", "0^1;0<1;0l15", "0h15;0?1:0;n0:1;o1", "i4095:4095;2l9;n1:0",
        "k4096;o0", "0?1:10;o10", "n10:0;k-4097", "i1:0;k1", "0l16;h", "k1;k1;2?3:1;n0:4;o4",
    };

    public static void main(String[] args) {
        grow(new StringBuilder(), 3);
        for (String sample : SAMPLES) {
            compare(sample);
            for (int at = 0; at <= sample.length(); at++) {
                String before = sample.substring(0, at);
                String behind = sample.substring(at);
                for (char sign : SIGNS.toCharArray()) {
                    compare(before + sign + behind);
                    compare(before + sign + (behind.isEmpty() ? "" : behind.substring(1)));
                }
                compare(before + (behind.isEmpty() ? "" : behind.substring(1)));
            }
        }
        Script.finish();
    }

    private static void grow(StringBuilder text, int more) {
        compare(text.toString());
        for (int i = 0; more > 0 && i < SIGNS.length(); i++) {
            text.append(SIGNS.charAt(i));
            grow(text, more - 1);
            text.setLength(text.length() - 1);
        }
    }

    private static void compare(String text) {
        WidthMinimizer object = new WidthMinimizer();
        Model model = new Model();
        object.add(2, 7, 0, 0);
        object.add(1, 5, 0, 0);
        model.add(2, 7, 0, 0);
        model.add(1, 5, 0, 0);
        for (char sign : text.toCharArray()) {
            object.feed(sign);
            model.feed(sign);
        }
        int items = model.read();
        boolean isRight = object.read() == items && object.count() == model.count();
        for (int i = 0; items >= 0 && isRight && i < model.count(); i++) {
            for (int what = 0; what <= 6; what++) {
                isRight &= object.signal(i, what) == model.signal(i, what);
            }
        }
        int levels = items >= 0 ? 0 : model.fault(1, 0) == 3 ? 3 : 2;
        for (int i = 0; isRight && i < 2 * levels; i++) {
            isRight = object.fault(i / 2, i % 2) == model.fault(i / 2, i % 2);
        }
        if (!isRight) {
            Script.report("26, 27: the text " + text + " is not read as by the model");
        }
    }
}
