/** All that can be asked of an object, in one text. */
final class Snapshot {
    private Snapshot() {
    }

    static String of(PromiseScopes x) {
        StringBuilder text = new StringBuilder();
        for (int which = 0; which <= 4; which++) {
            text.append(x.count(which)).append(' ');
        }
        for (int s = 0; s < x.count(0); s++) {
            text.append("| stage");
            for (int w = 0; w <= 3; w++) {
                text.append(' ').append(x.stage(s, w));
            }
        }
        for (int p = 0; p < x.count(2); p++) {
            text.append("| scope");
            for (int w = 0; w <= 5; w++) {
                text.append(' ').append(x.scope(p, w));
            }
            for (int key = 0; key <= 3; key++) {
                text.append(' ').append(x.bound(p, key));
            }
        }
        for (int t = 0; t < x.count(3); t++) {
            text.append("| task");
            for (int w = 0; w <= 3; w++) {
                text.append(' ').append(x.task(t, w));
            }
        }
        return text.toString();
    }
}
