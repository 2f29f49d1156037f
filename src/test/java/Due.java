/** Counts answers that are not as due; a test ends with exit code 1 if there was one. */
final class Due {
    private int asked = 0;
    private int wrong = 0;

    void is(String call, long got, long want) {
        asked++;
        if (got != want) {
            wrong++;
            if (wrong <= 50) {
                System.out.println(call + " answered " + got + ", due is " + want);
            }
        }
    }

    /** A text of up to 24 letters comes behind the page. */
    static int put(NamesOnIce x, String text) {
        int size = x.count(4);
        for (int from = 0; from < text.length(); from += 8) {
            size = x.letters(word(text.substring(from, Math.min(text.length(), from + 8))));
        }
        return size;
    }

    static long word(String text) {
        long w = 0;
        for (int i = text.length() - 1; i >= 0; i--) {
            w = (w << 8) | text.charAt(i);
        }
        return w;
    }

    /** A page of this text, whatever was there before, goes by. */
    static int pass(NamesOnIce x, String text) {
        x.blank();
        put(x, text);
        return x.days();
    }

    void end() {
        System.out.println(asked + " answers, " + wrong + " not as due");
        if (wrong != 0) {
            System.exit(1);
        }
    }
}
