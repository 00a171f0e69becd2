/** All that can be asked of an object, in one text; in two parts where one would take too many calls. */
final class Snapshot {
    private Snapshot() {
    }

    static String of(PromiseScopes x) {
        return ofStages(x) + ofScopes(x);
    }

    static String ofStages(PromiseScopes x) {
        StringBuilder text = new StringBuilder();
        int made = x.count(0);
        text.append(made).append(' ').append(x.count(1));
        for (int s = 0; s < made; s++) {
            text.append(" | stage");
            for (int w = 0; w <= 3; w++) {
                text.append(' ').append(x.stage(s, w));
            }
        }
        return text.toString();
    }

    static String ofScopes(PromiseScopes x) {
        StringBuilder text = new StringBuilder();
        int scopes = x.count(2);
        int tasks = x.count(3);
        text.append(" time ").append(x.count(4));
        for (int p = 0; p < scopes; p++) {
            text.append(" | scope");
            for (int w = 0; w <= 5; w++) {
                text.append(' ').append(x.scope(p, w));
            }
            for (int key = 0; key <= 3; key++) {
                text.append(' ').append(x.bound(p, key));
            }
        }
        for (int t = 0; t < tasks; t++) {
            text.append(" | task");
            for (int w = 0; w <= 3; w++) {
                text.append(' ').append(x.task(t, w));
            }
        }
        return text.toString();
    }
}
