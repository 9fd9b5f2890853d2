import java.util.ArrayList;
import java.util.List;
import java.util.function.ToLongFunction;

/**
 * A SixNet for tests. Nothing is promised of an object after its 512th call, so in time a new one takes its place, after
 * the same calls: the same calls always give the same answers.
 */
final class Net {
    private static final int MOST_CALLS = 512;
    private static final int LONGEST_STORY = 480;

    private final List<ToLongFunction<SixNet>> story = new ArrayList<>();
    private final boolean endless;
    private ToLongFunction<SixNet> latestQuestion;
    private SixNet object = new SixNet();
    private int calls;

    Net() {
        this(false);
    }

    /** An endless one keeps its one object, beyond all promises but those of the language. */
    Net(boolean endless) {
        this.endless = endless;
    }

    /** Another one to which the same was told. */
    Net fork() {
        Net other = new Net();
        other.story.addAll(story);
        other.renew();
        return other;
    }

    /** How many calls it takes to make another one like it. */
    int told() {
        return story.size();
    }

    private void renew() {
        object = new SixNet();
        for (ToLongFunction<SixNet> call : story) {
            call.applyAsLong(object);
        }
        calls = story.size();
        if (latestQuestion != null) {
            latestQuestion.applyAsLong(object);
            calls++;
        }
    }

    private long call(ToLongFunction<SixNet> what) {
        if (calls >= MOST_CALLS && !endless) {
            renew();
        }
        calls++;
        return what.applyAsLong(object);
    }

    private int tell(ToLongFunction<SixNet> what) {
        if (story.size() >= LONGEST_STORY && !endless) {
            throw new IllegalStateException("the test's run is too long");
        }
        long answer = call(what);
        story.add(what);
        latestQuestion = null;
        return (int) answer;
    }

    private long ask(ToLongFunction<SixNet> what) {
        long answer = call(what);
        latestQuestion = what;
        return answer;
    }

    int node(boolean router) {
        return tell(x -> x.node(router));
    }

    int link(long prefix, int mtu) {
        return tell(x -> x.link(prefix, mtu));
    }

    int attach(int node, int link, long mac, long id) {
        return tell(x -> x.attach(node, link, mac, id));
    }

    int own(int node, long prefix, int length) {
        return tell(x -> x.own(node, prefix, length));
    }

    int message(int from, int to, int length, int seed) {
        return tell(x -> x.message(from, to, length, seed));
    }

    int echo(int node, long high, long low, int size) {
        return tell(x -> x.echo(node, high, low, size));
    }

    int tick(int n) {
        return tell(x -> x.tick(n));
    }

    int deliver(int k) {
        return tell(x -> x.deliver(k));
    }

    int drop(int k) {
        return tell(x -> x.drop(k));
    }

    int twice(int k) {
        return tell(x -> x.twice(k));
    }

    int hurry(int n) {
        return tell(x -> x.hurry(n));
    }

    int raise(int link, boolean up) {
        return tell(x -> x.raise(link, up));
    }

    int frames() {
        return (int) call(x -> x.frames());
    }

    int frame(int k, int what) {
        return (int) ask(x -> x.frame(k, what));
    }

    long bytes(int k, int i) {
        return ask(x -> x.bytes(k, i));
    }

    int face(int i, int what) {
        return (int) ask(x -> x.face(i, what));
    }

    long id(int i, int what) {
        return ask(x -> x.id(i, what));
    }

    long entry(int i, int j, int what) {
        return ask(x -> x.entry(i, j, what));
    }

    int routes(int node) {
        return (int) ask(x -> x.routes(node));
    }

    long route(int node, int j, int what) {
        return ask(x -> x.route(node, j, what));
    }

    int way(int node, long high) {
        return (int) ask(x -> x.way(node, high));
    }

    int heard(int a, int b) {
        return (int) ask(x -> x.heard(a, b));
    }

    int got(int a, int b, int i, int what) {
        return (int) ask(x -> x.got(a, b, i, what));
    }

    int sent(int a, int b, int what) {
        return (int) ask(x -> x.sent(a, b, what));
    }

    int mtu(int node, long high, long low) {
        return (int) ask(x -> x.mtu(node, high, low));
    }

    int count(int node, int what) {
        return (int) ask(x -> x.count(node, what));
    }

    int world(int what) {
        return (int) ask(x -> x.world(what));
    }

    int status() {
        return (int) call(x -> x.status());
    }
}
