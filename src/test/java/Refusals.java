/** For calls in the midst of a run that are due to be refused; what they throw is looked at elsewhere. */
final class Refusals {
    private Refusals() {
    }

    static void of(Runnable call) {
        try {
            call.run();
        } catch (RuntimeException due) {
            return;
        }
        throw new AssertionError("the call was not refused");
    }
}
