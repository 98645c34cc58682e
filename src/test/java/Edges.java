/**
 * What the tests of edges share. Each check makes its own objects, so none is called more than 512
 * times, and holds what the object tells of itself before and after the one call.
 */
final class Edges {
    /** A call on an object. */
    interface On {
        Object answer(Rewriterope x);
    }

    /** A call with a number that may be wrong. */
    interface With {
        Object answer(Rewriterope x, int number);
    }

    private static final int REFUSED = -9;

    private final Due due = new Due();

    /** The call answers so, and nothing changes. */
    void answers(String what, Object want, Scene scene, On call) {
        check(what, want, scene, call, scene.after(scene, 0, 0, 0));
    }

    /** The call answers so, and then all is so; what is counted stays. */
    void makes(String what, Object want, Scene scene, On call, Scene then) {
        check(what, want, scene, call, then.after(scene, 0, 0, 0));
    }

    /** The call answers so, and then all is so; so many steps more are counted. */
    void steps(String what, Object want, Scene scene, On call, Scene then, int made) {
        check(what, want, scene, call, then.after(scene, 0, 0, made));
    }

    /** The call answers so, and so many knocks more are counted. */
    void knocks(String what, Object want, Scene scene, On call, int more) {
        check(what, want, scene, call, scene.after(scene, 0, more, 0));
    }

    /** The call answers REFUSED, and nothing changes but that this is counted. */
    void refused(String what, Scene scene, On call) {
        check(what, REFUSED, scene, call, scene.after(scene, 1, 0, 0));
    }

    /** There is no such thing: IndexOutOfBoundsException, and nothing changes. */
    void noPlace(String what, Scene scene, On call) {
        check(what, "throws.IndexOutOfBoundsException", scene, call, scene.after(scene, 0, 0, 0));
    }

    /** There is no such word: IllegalArgumentException, and nothing changes. */
    void noWord(String what, Scene scene, On call) {
        check(what, "throws.IllegalArgumentException", scene, call, scene.after(scene, 0, 0, 0));
    }

    /** It is not the time for it: IllegalStateException, and nothing changes. */
    void noTime(String what, Scene scene, On call) {
        check(what, "throws.IllegalStateException", scene, call, scene.after(scene, 0, 0, 0));
    }

    /** Of a row of so many things neither the one ahead of the first nor the one behind the last is. */
    void noPlaceBeside(String what, int size, Scene scene, With call) {
        for (int number : beside(0, size - 1)) {
            noPlace(what + " " + number, scene, x -> call.answer(x, number));
        }
    }

    void noRope(String what, Scene scene, With call) {
        noPlaceBeside(what + ", rope", 4, scene, call);
    }

    /** What is too small and too large beside the least and the greatest that is right. */
    static int[] beside(int least, int greatest) {
        return new int[] {least - 1, greatest + 1, Integer.MIN_VALUE, Integer.MAX_VALUE};
    }

    void is(String what, Object want, Due.Call call) {
        due.is(what, want, call);
    }

    void end(String test) {
        due.end(test);
    }

    private void check(String what, Object want, Scene scene, On call, Scene then) {
        due.is(what + ", as the first call", want, () -> call.answer(scene.make()));
        Rewriterope x = scene.make();
        due.is(what + ", told ahead of it", scene.told(), () -> Scene.toldOf(x));
        due.is(what, want, () -> call.answer(x));
        due.is(what + ", told behind it", then.told(), () -> Scene.toldOf(x));
    }
}
