/** What the tests share: answers that are due, and texts for the pad. */
final class Check {
    /** Of each part, so that many wrong answers of one do not hide another one. */
    private static final int SHOWN = 10;
    private int wrong = 0;
    private int shown = 0;
    private int checked = 0;
    private String part = "";

    void begin(String newPart) {
        part = newPart;
        shown = 0;
    }

    void due(String call, long got, long want) {
        checked++;
        if (got != want) {
            fail(call + " answered " + got + ", due is " + want);
        }
    }

    void fail(String what) {
        wrong++;
        shown++;
        if (shown <= SHOWN) {
            System.out.println(part + ": " + what);
        }
    }

    int wrongs() {
        return wrong;
    }

    void end() {
        System.out.println(wrong == 0 ? checked + " answers are as due" : wrong + " answers are not as due");
        if (wrong != 0) {
            System.exit(1);
        }
    }

    /** Up to 8 characters as put() takes them. */
    static long packed(String text) {
        long number = 0;
        for (int i = 0; i < text.length(); i++) {
            number = number << 8 | text.charAt(i);
        }
        return number;
    }

    /** Appends a text of any length to the pad, and returns the last answer. */
    static int putText(SaltPrices prices, String text) {
        int answer = prices.count(16);
        for (int i = 0; i < text.length(); i += 8) {
            answer = prices.put(packed(text.substring(i, Math.min(text.length(), i + 8))));
        }
        return answer;
    }

    static String padOf(SaltPrices prices) {
        StringBuilder text = new StringBuilder();
        int code = prices.sign(0);
        for (int i = 1; code >= 0 && i <= 80; i++) {
            text.append((char) code);
            code = prices.sign(i);
        }
        return text.toString();
    }
}
