/** What the tests share: answers compared with those that are due, texts written and laid. */
final class Check {
    private int wrong;
    private int asked;
    private String promise = "";

    /** The checks that follow are about this promise. */
    void about(String name) {
        promise = name;
    }

    void due(String call, int got, int want) {
        asked++;
        if (got != want) {
            wrong++;
            System.out.println(promise + ": " + call + " answered " + got + ", due is " + want);
        }
    }

    void holds(String what, boolean so) {
        asked++;
        if (!so) {
            wrong++;
            System.out.println(promise + ": " + what + " does not hold");
        }
    }

    void end(String test) {
        System.out.println(test + ": " + asked + " answers looked at, " + wrong + " not as due");
        if (wrong != 0) {
            System.exit(1);
        }
    }

    /** Writes the text behind THE TEXT; the answer is that of the last call. */
    static int write(HalfAsleep x, String text) {
        int answer = x.count(6);
        for (int at = 0; at < text.length(); at += 8) {
            String part = text.substring(at, Math.min(text.length(), at + 8));
            long v = 0;
            for (int k = 0; k < part.length(); k++) {
                v = v << 8 | part.charAt(k) & 255;
            }
            answer = x.write(part.length(), v);
        }
        return answer;
    }

    static int faultOf(String text) {
        HalfAsleep x = new HalfAsleep();
        write(x, text);
        return x.fault();
    }

    /** A new object on which the text is LAID. */
    static HalfAsleep laid(String text) {
        HalfAsleep x = new HalfAsleep();
        write(x, text);
        int persons = x.lay();
        if (persons < 1) {
            throw new IllegalStateException("not laid: " + text);
        }
        return x;
    }
}
