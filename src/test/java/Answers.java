/** Makes a call that is given as a name with numbers, and tells its answer as a text. */
final class Answers {
    private Answers() {
    }

    /** The number that is answered, or "throws." and the exception's name. */
    static String of(SwingBridge x, String name, int... a) {
        try {
            return Integer.toString(call(x, name, a));
        } catch (RuntimeException e) {
            return "throws." + e.getClass().getSimpleName();
        }
    }

    private static int call(SwingBridge x, String name, int[] a) {
        switch (name) {
            case "add": return x.add(a[0], a[1], a[2], a[3]);
            case "weight": return x.weight(a[0]);
            case "toll": return x.toll(a[0], a[1]);
            case "fits": return x.fits(a[0]);
            case "enter": return x.enter(a[0], a[1]);
            case "leave": return x.leave(a[0]);
            case "rebate": return x.rebate(a[0]);
            case "bill": return x.bill(a[0], a[1]);
            case "month": return x.month(a[0], a[1]);
            case "swing": return x.swing(a[0] != 0);
            case "rush": return x.rush(a[0]);
            case "clear": return x.clear();
            case "tell": return x.tell(a[0], a[1]);
            case "deck": return x.deck(a[0]);
            case "began": return x.began(a[0]);
            case "count": return x.count(a[0]);
            default: throw new Error("the test names no call of the class: " + name);
        }
    }
}
