/** What the tests share: making hives, comparing answers, and counting. */
final class Check {

    interface Call {
        void run();
    }

    private static int passed;
    private static int failed;

    private Check() {
    }

    static void same(String what, long due, long got) {
        count(due == got, what, due, got);
    }

    static void same(String what, double due, double got) {
        count(due == got, what, due, got);
    }

    static void so(String what, boolean got) {
        count(got, what, true, got);
    }

    static void same(String what, boolean due, boolean got) {
        count(due == got, what, due, got);
    }

    static void notSo(String what, boolean got) {
        count(!got, what, false, got);
    }

    static void noSuch(String what, Call call) {
        refused(what, IndexOutOfBoundsException.class, call);
    }

    static void cannot(String what, Call call) {
        refused(what, IllegalStateException.class, call);
    }

    static void notAllowed(String what, Call call) {
        refused(what, IllegalArgumentException.class, call);
    }

    /** The very class is asked for, as what the machine throws can be of a class below it. */
    private static void refused(String what, Class<?> due, Call call) {
        Class<?> got = null;
        try {
            call.run();
        } catch (RuntimeException thrown) {
            got = thrown.getClass();
        }
        count(due == got, what, due, got);
    }

    private static void count(boolean right, String what, Object due, Object got) {
        if (right) {
            passed++;
        } else {
            failed++;
            System.out.println(what + ": due is " + due + ", answered was " + got);
        }
    }

    /** Feeds the text, filled up with blanks, which are cut off again. */
    static void feed(HoneyAccord hive, String text) {
        int[] w = new int[5];
        int length = 0;
        for (int from = 0; from < text.length(); from += 20) {
            for (int i = 0; i < 20; i++) {
                int sign = from + i < text.length() ? text.charAt(from + i) : ' ';
                w[i / 4] = w[i / 4] << 8 | sign & 255;
            }
            length = hive.feed(w[0], w[1], w[2], w[3], w[4]);
        }
        hive.trim(length - Math.floorMod(-text.length(), 20));
    }

    static HoneyAccord hive(String text) {
        HoneyAccord hive = new HoneyAccord();
        learns(hive, text);
        return hive;
    }

    static void learns(HoneyAccord hive, String text) {
        feed(hive, text);
        same("teach of " + text, 0, hive.teach());
        same("errorAt of " + text, -1, hive.errorAt());
    }

    /** The text bears a ^ where the error has to be. */
    static void wrong(int error, String marked) {
        HoneyAccord hive = new HoneyAccord();
        feed(hive, marked.replace("^", ""));
        same("teach of " + marked, error, hive.teach());
        same("errorAt of " + marked, marked.indexOf('^'), hive.errorAt());
    }

    static String times(int count, String text) {
        return text.repeat(count);
    }

    static void finish() {
        System.out.println(passed + " passed, " + failed + " failed");
        if (failed > 0 || passed == 0) {
            System.exit(1);
        }
    }
}
