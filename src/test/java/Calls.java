/** Calls by their names, the answer as a number. */
final class Calls {
    private Calls() {
    }

    static long of(SecondFitting x, String name, int[] in) {
        int a = in[0];
        int b = in[1];
        int c = in[2];
        return switch (name) {
            case "fault" -> x.fault();
            case "where" -> x.where();
            case "seam" -> x.seam(a, b);
            case "pull" -> x.pull(a, b);
            case "body" -> x.body(a, b);
            case "measured" -> x.measured(a, b);
            case "taped" -> x.taped(a, b, c);
            case "amiss" -> x.amiss(a, b, c);
            case "together" -> x.together(a, b);
            case "wrong" -> x.wrong(a, b);
            case "fits" -> x.fits(a);
            case "until" -> x.until();
            case "worst" -> x.worst(a);
            case "worstPose" -> x.worstPose(a);
            case "stripe" -> x.stripe(a, b);
            case "tryPin" -> x.tryPin(a, b);
            case "fewest" -> x.fewest(a);
            case "pinOf" -> x.pinOf(a, b);
            case "best" -> x.best(a);
            case "bestBy" -> x.bestBy(a);
            case "bestLeaves" -> x.bestLeaves(a);
            case "bestAll" -> x.bestAll(a);
            case "bestAllBy" -> x.bestAllBy(a);
            case "bestAllLeaves" -> x.bestAllLeaves(a);
            case "reach" -> x.reach(a);
            case "settles" -> x.settles(a);
            case "orders" -> x.orders(a);
            case "orderAt" -> x.orderAt(a, b);
            case "enough" -> x.enough(a, b, c == 1);
            case "need" -> x.need(a, b);
            case "leave" -> x.leave(a, b);
            case "visits" -> x.visits();
            case "visitAt" -> x.visitAt(a);
            case "when" -> x.when();
            case "whenAmiss" -> x.whenAmiss();
            case "truly" -> x.truly(a, b == 1);
            case "widest" -> x.widest();
            case "judge" -> x.judge();
            case "part" -> x.part(a, b, c == 1);
            case "meets" -> x.meets();
            case "meetBy" -> x.meetBy(a);
            case "tight" -> x.tight(a, b);
            case "month" -> x.month(a);
            case "months" -> x.months(a, b);
            case "pin" -> x.pin(a, b);
            case "days" -> x.days(a);
            case "wear" -> x.wear(a);
            case "before" -> x.before();
            case "better" -> x.better();
            case "undo" -> x.undo() ? 1 : 0;
            case "mark" -> x.mark();
            case "back" -> x.back(a) ? 1 : 0;
            case "led" -> x.led(a);
            case "size" -> x.size(a);
            case "trouble" -> x.trouble();
            default -> throw new IllegalArgumentException(name);
        };
    }
}
