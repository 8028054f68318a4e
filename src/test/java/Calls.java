import java.util.Arrays;
import java.util.List;

/** Every call of the face by its name, with its numbers in order (of reading() the last: 0 or 1). */
final class Calls {
    /** Those whose line in the document names one of the FAULTS. */
    private static final List<String> NAMING_FAULTS =
        List.of("valley", "asked", "sheet", "put", "cell", "copy", "as");

    private Calls() { }

    static boolean namesFaults(String call) {
        return NAMING_FAULTS.contains(call);
    }

    static String told(String call, int... a) {
        String numbers = Arrays.toString(a);
        return call + "(" + numbers.substring(1, numbers.length() - 1) + ")";
    }

    static long answer(ThreeRefusals x, String call, int... a) {
        switch (call) {
            case "pairs": return x.pairs();
            case "brought": return x.brought();
            case "trace": return x.trace();
            case "fault": return x.fault();
            case "law": return x.law(a[0]);
            case "comes": return x.comes(a[0]);
            case "undo": return x.undo(a[0]);
            case "firm": return x.firm(a[0]);
            case "back": return x.back(a[0]);
            case "kinds": return x.kinds(a[0]);
            case "lose": return x.lose(a[0]);
            case "tell": return x.tell(a[0]);
            case "greet": return x.greet(a[0]);
            case "many": return x.many(a[0]);
            case "ofMaid": return x.ofMaid(a[0], a[1]);
            case "offer": return x.offer(a[0], a[1]);
            case "sent": return x.sent(a[0], a[1]);
            case "as": return x.as(a[0], a[1]);
            case "likes": return x.likes(a[0], a[1], a[2]);
            case "learnt": return x.learnt(a[0], a[1], a[2]);
            case "sheet": return x.sheet(a[0], a[1], a[2]);
            case "put": return x.put(a[0], a[1], a[2]);
            case "cell": return x.cell(a[0], a[1], a[2]);
            case "valley": return x.valley(a[0], a[1], a[2], a[3]);
            case "like": return x.like(a[0], a[1], a[2], a[3]);
            case "worth": return x.worth(a[0], a[1], a[2], a[3]);
            case "reading": return x.reading(a[0], a[1], a[2], a[3] != 0);
            case "copy": return x.copy(a[0], a[1], a[2], a[3], a[4]);
            case "asked": return x.asked(a[0], a[1], a[2], a[3], a[4], a[5]);
            default: throw new IllegalArgumentException(call);
        }
    }
}
