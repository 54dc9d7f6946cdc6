/** What the tests share: answers that are due, texts that are fed, rows that are written. */
final class Check {
    private static int passed = 0;
    private static int failed = 0;
    private static String sentence = "";

    private Check() {
    }

    static void due(String call, long got, long want) {
        if (got == want) {
            passed++;
        } else {
            failed++;
            System.out.println(sentence + call + " answered " + got + ", due is " + want);
        }
    }

    /** Which sentence of the document the next answers are due to; SentenceTest looks whether it stands there. */
    static void says(String where, String words) {
        sentence = "[" + where + ": " + words + "] ";
    }

    /** All that was seen by look() is seen so again. */
    static void stays(String call, CallForBrown x, String seen) {
        String now = look(x);
        if (!now.equals(seen)) {
            System.out.println(seen + "\n" + now);
        }
        due("what stays behind " + call, now.equals(seen) ? 1 : 0, 1);
    }

    /** What can be seen of HOUSE, MINUTES, TAPE, FAULT and SLOTS without a change. */
    static String look(CallForBrown x) {
        StringBuilder seen = new StringBuilder();
        for (int what = 0; what <= 7; what++) {
            seen.append(x.count(what)).append(' ');
        }
        seen.append("fault ").append(x.fault(0)).append(' ').append(x.fault(1)).append(" found ").append(x.found());
        for (int room = -1; room < x.count(0); room++) {
            seen.append(" room ").append(room).append(": ").append(x.parts(room)).append(' ').append(x.later(room, 1));
            for (int what = 0; room >= 0 && what <= 3; what++) {
                seen.append(' ').append(x.room(room, what));
            }
        }
        for (int man = 0; man < x.count(2); man++) {
            seen.append(" man ").append(man).append(": ").append(x.man(man, 0)).append(' ').append(x.man(man, 1));
            for (int as = 0; as < x.count(2); as++) {
                seen.append(' ').append(x.slate(man, as));
            }
        }
        for (int slot = 0; slot <= 3; slot++) {
            seen.append(" slot ").append(slot).append(": ").append(x.round(slot)).append(' ').append(x.gain(slot));
            seen.append(' ').append(x.disturbs(slot)).append(' ').append(x.habit(slot)).append(' ').append(x.period(slot));
        }
        return seen.toString();
    }

    /** The closing line, and exit code 1 if an answer was not the one that is due. */
    static void finish() {
        System.out.println(passed + " passed, " + failed + " failed");
        if (failed != 0 || passed == 0) {
            System.exit(1);
        }
    }

    static CallForBrown told(String text) {
        CallForBrown x = new CallForBrown();
        int lines = tell(x, text);
        if (lines < 0) {
            due("house() of " + text + ", fault " + x.fault(0) + " at " + x.fault(1), lines, 1);
        }
        return x;
    }

    static int tell(CallForBrown x, String text) {
        put(x, text);
        return x.house();
    }

    /** The TAPE is the text alone. */
    static void put(CallForBrown x, String text) {
        x.end(0);
        int[] five = new int[5];
        for (int from = 0; from < text.length(); from += 20) {
            for (int i = 0; i < 5; i++) {
                five[i] = 0;
                for (int k = 0; k < 4; k++) {
                    int place = from + 4 * i + k;
                    five[i] = five[i] << 8 | (place < text.length() ? text.charAt(place) & 255 : 0);
                }
            }
            x.feed(five[0], five[1], five[2], five[3], five[4]);
        }
        x.end(text.length());
    }

    static void row(CallForBrown x, int slot, long... numbers) {
        x.row(slot, 0, numbers.length);
        for (int i = 0; i < numbers.length; i++) {
            x.write(slot, i, numbers[i]);
        }
    }
}
