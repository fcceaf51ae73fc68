import java.util.ArrayList;
import java.util.List;

/**
 * A run of calls on a new desk, written as text: "fill(20) = 20", parted by lines
 * or semicolons; a call without "=" is there to lead to the others. Behind every
 * call with an answer it is tested as well that an error or a look changes
 * nothing, and that a deed is remembered and undone wholly, and both leave what can
 * be undone behind it. These looks are taken on further desks that replay the run,
 * since a desk is promised for 512 calls.
 */
final class Script {
    private static final int LOOKS_A_DESK = 200;
    private static final int COUNTS = 17;
    private static final int MOST_CALLS = 300;
    private static int tested = 0;
    private static int wrong = 0;

    private final String title;
    private final List<Calls.Call> done = new ArrayList<>();
    private final BountyDesk desk = new BountyDesk();

    private Script(String title) {
        this.title = title;
    }

    static void run(String title, String... parts) {
        Script script = new Script(title);
        for (String line : String.join("\n", parts).split("[\n;]")) {
            String bare = line.replaceAll("#.*", "").trim();
            if (!bare.isEmpty()) {
                script.take(bare);
            }
        }
    }

    /**
     * Makes a call with values outside least to most in the place of its "?", which
     * all have to be answered with the error: the first ones on each side, the
     * outermost ones, and those that a shorter number would wrap around.
     */
    static void refused(String title, String setup, String call, int least, int most, String error) {
        long[] values = {least - 1L, least - 2L, least - 10L, most + 1L, most + 2L, most + 10L,
                Integer.MIN_VALUE, Integer.MIN_VALUE + 1L, Integer.MAX_VALUE, Integer.MAX_VALUE - 1L,
                least + 256L, most - 256L, least + 65536L, most - 65536L, -most, least ^ 0x80000000L};
        StringBuilder calls = new StringBuilder();
        for (long value : values) {
            int cut = (int) value;
            if (cut < least || cut > most) {
                calls.append(call.replace("?", "" + cut)).append(" = ").append(error).append('\n');
            }
        }
        run(title, setup, calls.toString());
    }

    /** Ends the test with exit code 1 if an answer was wrong. */
    static void end() {
        System.out.println(tested + " calls tested, " + wrong + " wrong");
        if (wrong != 0 || tested == 0) {
            System.exit(1);
        }
    }

    static void same(String what, String got, String want) {
        tested++;
        if (!got.equals(want)) {
            wrong++;
            System.out.println(what + ": got " + got + ", due is " + want);
        }
    }

    private void take(String line) {
        if (done.size() >= MOST_CALLS) {
            throw new IllegalArgumentException(title + " is too long for the looks behind its calls");
        }
        int sign = line.indexOf('=');
        Calls.Call call = parsed(sign < 0 ? line : line.substring(0, sign));
        int got = call.on(desk);
        if (sign < 0) {
            done.add(call);
            return;
        }
        int want = number(line.substring(sign + 1).trim());
        expect(call, "answers", got, want);
        if (Calls.isError(want) || !call.isDeed() && !call.name().equals("undo")) {
            testThatNothingChanges(call);
        } else if (call.isDeed()) {
            testThatItIsUndone(call);
        }
        done.add(call);
    }

    private void testThatNothingChanges(Calls.Call call) {
        for (int from = 0; from < looks().size(); from += LOOKS_A_DESK) {
            BountyDesk without = replayed();
            BountyDesk with = replayed();
            call.on(with);
            compare(call, from, with, without, -1);
        }
        BountyDesk with = replayed();
        call.on(with);
        compareWhatIsUndone(call, with, replayed());
    }

    private void testThatItIsUndone(Calls.Call call) {
        int known = replayed().count(16);
        BountyDesk once = replayed();
        call.on(once);
        expect(call, "is remembered", once.count(16), Math.min(known + 1, 8));
        expect(call, "leaves by undo", once.undo(), Math.min(known, 7));
        for (int from = 0; from < looks().size(); from += LOOKS_A_DESK) {
            BountyDesk without = replayed();
            BountyDesk with = replayed();
            call.on(with);
            with.undo();
            compare(call, from, with, without, 16);
        }
        BountyDesk with = replayed();
        call.on(with);
        with.undo();
        compareWhatIsUndone(call, with, replayed());
    }

    /** Of eight remembered deeds a further one makes the desk forget the first. */
    private void compareWhatIsUndone(Calls.Call call, BountyDesk with, BountyDesk without) {
        int known = Math.min(with.count(16), without.count(16));
        for (int i = 1; i <= known; i++) {
            with.undo();
            without.undo();
            for (int what = 0; what < COUNTS - 1; what++) {
                expect(call, "leaves count(" + what + ") behind undo " + i, with.count(what), without.count(what));
            }
        }
    }

    private void compare(Calls.Call call, int from, BountyDesk with, BountyDesk without, int skippedCount) {
        List<Calls.Call> looks = looks();
        for (int i = from; i < Math.min(from + LOOKS_A_DESK, looks.size()); i++) {
            Calls.Call look = looks.get(i);
            boolean isSkipped = look.name().equals("count") && look.arguments()[0] == skippedCount;
            if (!isSkipped) {
                expect(call, "leaves " + look.text(), look.on(with), look.on(without));
            }
        }
    }

    private List<Calls.Call> looks() {
        BountyDesk now = replayed();
        return Calls.looks(now.count(3), now.count(4), now.count(5));
    }

    private BountyDesk replayed() {
        BountyDesk fresh = new BountyDesk();
        for (Calls.Call call : done) {
            call.on(fresh);
        }
        return fresh;
    }

    private void expect(Calls.Call call, String what, int got, int want) {
        String place = title + ", call " + (done.size() + 1) + ", " + call.text() + " " + what;
        same(place, Integer.toString(got), Integer.toString(want));
    }

    private static Calls.Call parsed(String text) {
        int open = text.indexOf('(');
        String inside = text.substring(open + 1, text.indexOf(')')).trim();
        String[] words = inside.isEmpty() ? new String[0] : inside.split(",");
        int[] arguments = new int[words.length];
        for (int i = 0; i < words.length; i++) {
            arguments[i] = number(words[i].trim());
        }
        return new Calls.Call(text.substring(0, open).trim(), arguments);
    }

    private static int number(String word) {
        switch (word) {
            case "INVALID": return BountyDesk.INVALID_ARGUMENT;
            case "ILLEGAL": return BountyDesk.ILLEGAL_STATE;
            case "FULL": return BountyDesk.CAPACITY_EXCEEDED;
            case "NONE": return BountyDesk.NONE;
            case "MIN": return Integer.MIN_VALUE;
            case "MAX": return Integer.MAX_VALUE;
            default: return Integer.parseInt(word);
        }
    }
}
