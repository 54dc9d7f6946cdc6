/** What the tests share: answers that are due, texts that are fed, rows that are written. */
final class Check {
    private static int passed = 0;
    private static int failed = 0;

    private Check() {
    }

    static void due(String call, long got, long want) {
        if (got == want) {
            passed++;
        } else {
            failed++;
            System.out.println(call + " answered " + got + ", due is " + want);
        }
    }

    /** The closing line, and exit code 1 if an answer was not the one that is due. */
    static void finish() {
        System.out.println(passed + " passed, " + failed + " failed");
        if (failed != 0 || passed == 0) {
            System.exit(1);
        }
    }

    static CallForBrown told(String text) {
        CallForBrown x = new CallForBrown();
        int lines = tell(x, text);
        if (lines < 0) {
            due("house() of " + text + ", fault " + x.fault(0) + " at " + x.fault(1), lines, 1);
        }
        return x;
    }

    static int tell(CallForBrown x, String text) {
        put(x, text);
        return x.house();
    }

    /** The TAPE is the text alone. */
    static void put(CallForBrown x, String text) {
        x.end(0);
        int[] five = new int[5];
        for (int from = 0; from < text.length(); from += 20) {
            for (int i = 0; i < 5; i++) {
                five[i] = 0;
                for (int k = 0; k < 4; k++) {
                    int place = from + 4 * i + k;
                    five[i] = five[i] << 8 | (place < text.length() ? text.charAt(place) & 255 : 0);
                }
            }
            x.feed(five[0], five[1], five[2], five[3], five[4]);
        }
        x.end(text.length());
    }

    static void row(CallForBrown x, int slot, long... numbers) {
        x.row(slot, 0, numbers.length);
        for (int i = 0; i < numbers.length; i++) {
            x.write(slot, i, numbers[i]);
        }
    }
}
