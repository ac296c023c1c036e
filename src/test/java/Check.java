import java.util.NoSuchElementException;

/** What the tests share: answers compared and counted, texts told. */
final class Check {
    interface Call {
        long answer();
    }

    private static int wrong = 0;
    private static int compared = 0;

    private Check() {
    }

    static void due(String label, long want, long got) {
        compared++;
        if (got != want) {
            wrong++;
            if (wrong <= 50) {
                System.out.println(label + " answered " + got + ", due is " + want);
            }
        }
    }

    static void same(String label, String want, String got) {
        compared++;
        if (!want.equals(got)) {
            wrong++;
            if (wrong <= 50) {
                System.out.println(label + " answered " + got + ", due is " + want);
            }
        }
    }

    /** The answer of a call, or the name of what it throws. */
    static String outcome(Call call) {
        try {
            return Long.toString(call.answer());
        } catch (IllegalArgumentException e) {
            return e.getClass() == IllegalArgumentException.class ? "argument" : e.toString();
        } catch (IllegalStateException e) {
            return e.getClass() == IllegalStateException.class ? "state" : e.toString();
        } catch (NoSuchElementException e) {
            return e.getClass() == NoSuchElementException.class ? "missing" : e.toString();
        } catch (RuntimeException e) {
            return e.toString();
        }
    }

    static void refused(String label, String kind, Call call) {
        same(label, kind, outcome(call));
    }

    /** Feeds a text, with zeros behind it up to twenty bytes. */
    static void feed(SlipSecret slip, String text) {
        for (int at = 0; at < text.length(); at += 20) {
            int[] numbers = new int[5];
            for (int i = 0; i < 20; i++) {
                int sign = at + i < text.length() ? text.charAt(at + i) : 0;
                numbers[i / 4] = numbers[i / 4] << 8 | sign;
            }
            slip.feed(numbers[0], numbers[1], numbers[2], numbers[3], numbers[4]);
        }
    }

    static int tell(SlipSecret slip, String text) {
        feed(slip, text);
        return slip.text(text.length());
    }

    static SlipSecret told(String text) {
        SlipSecret slip = new SlipSecret();
        int answer = tell(slip, text);
        if (answer < 0) {
            due("text " + text, 0, answer);
        }
        return slip;
    }

    static void end() {
        System.out.println(compared + " answers compared, " + wrong + " wrong");
        if (wrong != 0 || compared == 0) {
            System.exit(1);
        }
    }
}
