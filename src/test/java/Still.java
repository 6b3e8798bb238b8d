import java.util.Arrays;

/** One state of an object: what calls answer in it that must not change anything. */
final class Still {
    private final Due due;
    private final String name;
    private final Watch state;
    private final String before;

    Still(Due due, String name, Watch state) {
        this.due = due;
        this.name = name;
        this.state = state;
        before = Seen.all(state);
    }

    void is(int want, String call, int... with) {
        Watch twin = state.twin();
        String told = name + ": " + call + Arrays.toString(with);
        due.is(told, twin.call(call, with), want);
        due.is(told + " changes nothing", Seen.all(twin).equals(before) ? 1 : 0, 1);
    }
}
