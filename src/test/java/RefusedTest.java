import java.util.ArrayList;
import java.util.List;
import java.util.function.Consumer;
import java.util.function.ToLongFunction;

/**
 * A call that is refused changes nothing, and a call that looks doesn't either.
 * Of two objects with the same past one makes such a call: both must answer the same ever after.
 */
public final class RefusedTest {
    private static final long REFUSED = -1;

    private record Past(String name, Consumer<Net> calls) {
    }

    private record Call(String name, boolean looks, ToLongFunction<Net> make) {
    }

    private RefusedTest() {
    }

    public static void main(String[] args) {
        Due.by("Terms: A call that is refused changes nothing");
        List<Past> pasts = pasts();
        for (Call call : calls()) {
            int tried = 0;
            for (Past past : pasts) {
                tried += changesNothing(past, call) ? 1 : 0;
            }
            Due.is(call.name + " is refused, or looks, somewhere", tried > 0, true);
        }
        Due.end();
    }

    /** Whether the call was one that must change nothing then. */
    private static boolean changesNothing(Past past, Call call) {
        Net made = begin(past);
        long answer = call.make.applyAsLong(made);
        if (!call.looks && answer != REFUSED) {
            return false;
        }
        List<Long> got = answersOf(made);
        List<Long> want = answersOf(begin(past));
        Due.is(call.name + " when " + past.name + ": answers", got.size(), want.size());
        for (int i = 0; i < Math.min(got.size(), want.size()); i++) {
            Due.is(call.name + " when " + past.name + ": answer " + i, got.get(i), want.get(i));
        }
        return true;
    }

    private static Net begin(Past past) {
        Net x = Scene.fresh();
        past.calls.accept(x);
        return x;
    }

    private static List<Past> pasts() {
        List<Past> pasts = new ArrayList<>();
        pasts.add(new Past("it is new", x -> { }));
        pasts.add(new Past("JOINING", x -> {
            x.join(0);
            x.tick(1);
        }));
        pasts.add(new Past("an ACCEPT is due", x -> {
            x.join(0);
            x.hear(0, 0);
        }));
        pasts.add(new Past("an ACCEPT is under way", x -> {
            x.join(0);
            x.hear(0, 0);
            x.tick(1);
        }));
        pasts.add(new Past("IN", x -> Scene.bringIn(x, 0)));
        pasts.add(new Past("it waits", x -> {
            Scene.bringIn(x, 0);
            x.send(0, 0x0706, 2, false, true);
            x.tick(1);
        }));
        pasts.add(new Past("it waits for an acknowledgement", x -> {
            Scene.bringIn(x, 0);
            x.send(0, 0x0706, 2, true, true);
            x.tick(4);
        }));
        pasts.add(new Past("an ANSWER is due", x -> {
            Scene.bringIn(x, 0);
            x.send(0, 0x0706, 2, true, true);
            x.hear(0, 1);
        }));
        pasts.add(new Past("an ANSWER is under way", x -> {
            Scene.bringIn(x, 0);
            x.queue(0, 0x1234, 2);
            x.send(0, 0x0706, 2, true, true);
            x.hear(0, 0);
            x.tick(1);
        }));
        pasts.add(new Past("twelve are under way", x -> {
            Scene.bringIn(x, 0);
            x.send(0, 0x0706, 2, true, true);
            x.hear(0, 0);
            x.tick(1);
            Scene.fill(x);
        }));
        pasts.add(new Past("four are queued", x -> {
            Scene.bringIn(x, 0);
            for (int i = 0; i < 4; i++) {
                x.queue(0, 30 + i, 1);
            }
        }));
        pasts.add(new Past("it has failed", x -> {
            Scene.bringIn(x, 0);
            x.send(0, 0x0706, 2, true, true);
            x.tick(12);
        }));
        pasts.add(new Past("much was received", RefusedTest::receiveMuch));
        return pasts;
    }

    private static void receiveMuch(Net x) {
        Scene.bringIn(x, 0);
        for (int i = 0; i < 5; i++) {
            x.queue(0, 40 + i, 1);
            Scene.ask(x, 0, true, true);
            x.reach(0);
        }
    }

    private static List<Call> calls() {
        List<Call> calls = new ArrayList<>();
        deviceCalls(calls);
        airCalls(calls);
        looks(calls);
        return calls;
    }

    private static void refused(List<Call> calls, String name, ToLongFunction<Net> make) {
        calls.add(new Call(name, false, make));
    }

    private static void refusedFrame(List<Call> calls, String name, java.util.function.Predicate<Net> make) {
        calls.add(new Call(name, false, x -> make.test(x) ? 1 : REFUSED));
    }

    private static void looks(List<Call> calls, String name, ToLongFunction<Net> make) {
        calls.add(new Call(name, true, make));
    }

    private static void deviceCalls(List<Call> calls) {
        for (int d : new int[] {0, -1, 3}) {
            refused(calls, "join(" + d + ")", x -> x.join(d));
            refused(calls, "send(" + d + ", 5, 1, true, true)", x -> x.send(d, 5, 1, true, true));
            refused(calls, "send(" + d + ", 5, 1, false, false)", x -> x.send(d, 5, 1, false, false));
            refused(calls, "skip(" + d + ", 9)", x -> x.skip(d, 9));
            refused(calls, "queue(" + d + ", 5, 1)", x -> x.queue(d, 5, 1));
        }
        for (int n : new int[] {-1, 9}) {
            refused(calls, "send(0, 5, " + n + ", true, true)", x -> x.send(0, 5, n, true, true));
        }
        for (int n : new int[] {0, -1, 70001}) {
            refused(calls, "skip(0, " + n + ")", x -> x.skip(0, n));
        }
        for (int n : new int[] {0, -1, 9}) {
            refused(calls, "queue(0, 5, " + n + ")", x -> x.queue(0, 5, n));
        }
        for (int n : new int[] {0, -1, 51}) {
            refused(calls, "tick(" + n + ")", x -> x.tick(n));
        }
    }

    private static void airCalls(List<Call> calls) {
        for (int k : new int[] {-1, 0, 1, 2, 11, 12}) {
            refusedFrame(calls, "reach(" + k + ")", x -> x.reach(k));
            refusedFrame(calls, "lose(" + k + ")", x -> x.lose(k));
            refusedFrame(calls, "replay(" + k + ")", x -> x.replay(k));
            refusedFrame(calls, "hear(" + k + ", 0)", x -> x.hear(k, 0));
            refusedFrame(calls, "hear(" + k + ", -1)", x -> x.hear(k, -1));
            refusedFrame(calls, "hear(" + k + ", 2)", x -> x.hear(k, 2));
            refusedFrame(calls, "spoil(" + k + ", 0, 1)", x -> x.spoil(k, 0, 1));
        }
        refusedFrame(calls, "replay(7)", x -> x.replay(7));
        refusedFrame(calls, "replay(8)", x -> x.replay(8));
        for (int i : new int[] {-1, 12, 17, 22, 23, 24}) {
            refusedFrame(calls, "spoil(0, " + i + ", 1)", x -> x.spoil(0, i, 1));
        }
        for (int change : new int[] {0, -1, 256}) {
            refusedFrame(calls, "spoil(0, 0, " + change + ")", x -> x.spoil(0, 0, change));
        }
    }

    private static void looks(List<Call> calls) {
        looks(calls, "frames()", Net::frames);
        for (int k : new int[] {-1, 0, 12}) {
            looks(calls, "length(" + k + ")", x -> x.length(k));
            looks(calls, "goal(" + k + ")", x -> x.goal(k));
            looks(calls, "octet(" + k + ", 0)", x -> x.octet(k, 0));
            looks(calls, "octet(0, " + k + ")", x -> x.octet(0, k));
        }
        for (int d : new int[] {-1, 0, 3}) {
            looks(calls, "state(" + d + ")", x -> x.state(d));
            for (boolean up : new boolean[] {true, false}) {
                looks(calls, "received(" + d + ", " + up + ")", x -> x.received(d, up));
                looks(calls, "payload(" + d + ", " + up + ", 0)", x -> x.payload(d, up, 0));
            }
            for (int what = -1; what <= 4; what++) {
                int one = what;
                looks(calls, "tally(" + d + ", " + one + ")", x -> x.tally(d, one));
            }
        }
    }

    // What later calls show: each answer that can tell what an object holds.

    private static List<Long> answersOf(Net x) {
        List<Long> answers = new ArrayList<>();
        lookAround(x, answers);
        readRemembered(x, answers);
        for (int d = 0; d < 3; d++) {
            note(answers, x.queue(d, 90 + d, 2));
        }
        for (int round = 0; round < 3; round++) {
            for (int d = 0; d < 3; d++) {
                exchange(x, d, round, answers);
            }
        }
        note(answers, x.tick(20));
        note(answers, x.frames());
        for (int d = 0; d < 3; d++) {
            note(answers, x.state(d));
            note(answers, x.tally(d, 1));
        }
        return answers;
    }

    private static void note(List<Long> answers, long answer) {
        answers.add(answer);
    }

    private static void lookAround(Net x, List<Long> answers) {
        int frames = x.frames();
        note(answers, frames);
        for (int k = 0; k < frames; k++) {
            int length = x.length(k);
            note(answers, length);
            note(answers, x.goal(k));
            int step = k < 2 ? 1 : 8;
            for (int i = 0; i < length; i += step) {
                note(answers, x.octet(k, i));
            }
        }
        for (int d = 0; d < 3; d++) {
            note(answers, x.state(d));
            for (int what = 0; what < 4; what++) {
                note(answers, x.tally(d, what));
            }
            for (boolean up : new boolean[] {true, false}) {
                int received = x.received(d, up);
                note(answers, received);
                note(answers, x.payload(d, up, received - 1));
                note(answers, x.payload(d, up, received - 4));
            }
        }
    }

    private static void readRemembered(Net x, List<Long> answers) {
        Scene.clear(x);
        for (int j = 0; j <= 8; j++) {
            note(answers, x.replay(j) ? 1 : 0);
            for (int i : new int[] {0, 6, 17}) {
                note(answers, x.octet(0, i));
            }
            x.lose(0);
        }
    }

    private static void exchange(Net x, int d, int round, List<Long> answers) {
        int state = x.state(d);
        note(answers, state);
        if (state == 0) {
            note(answers, x.join(d));
        } else if (state == 2) {
            note(answers, x.skip(d, 1));
            note(answers, x.send(d, round, 1, true, true));
        }
        int last = x.frames() - 1;
        note(answers, last);
        note(answers, x.hear(last, round % 2) ? 1 : 0);
        note(answers, x.tick(1));
        last = x.frames() - 1;
        note(answers, x.octet(last, 5));
        note(answers, x.reach(last) ? 1 : 0);
        x.lose(0);
        x.lose(0);
        note(answers, x.state(d));
        note(answers, x.received(d, false));
        note(answers, x.tally(d, 0));
        note(answers, x.tally(d, 2));
    }
}
