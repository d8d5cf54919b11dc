import java.util.List;

/** Calls that one kind of house refuses: each throws what is due, and nothing has changed behind it. */
final class Refusals {
    /** Builds a like house each time. */
    interface Plan {
        MouthpieceRow build();
    }

    /** A call of the face. */
    interface Call {
        Object of(MouthpieceRow house);
    }

    private final Checks checks;
    private final String name;
    private final Plan plan;
    private final List<String> untouched;

    Refusals(Checks checks, String name, Plan plan) {
        this.checks = checks;
        this.name = name;
        this.plan = plan;
        untouched = Portrait.of(plan.build());
    }

    void refuse(String what, Class<? extends RuntimeException> due, Call call) {
        MouthpieceRow house = plan.build();
        String all = name + ", " + what;
        checks.refuses(all, due, () -> call.of(house));
        checks.same(all + ", changes", "nothing", changed(Portrait.of(house)));
    }

    private String changed(List<String> now) {
        for (int i = 0; i < untouched.size() && i < now.size(); i++) {
            if (!untouched.get(i).equals(now.get(i))) {
                return untouched.get(i) + ", then " + now.get(i);
            }
        }
        return untouched.size() == now.size() ? "nothing" : "how many there are";
    }
}
