import java.util.ArrayList;
import java.util.List;
import java.util.function.Consumer;
import java.util.function.Supplier;
import java.util.function.ToLongFunction;

/**
 * Compares a sale with a twin: one that was made alike, but without the calls
 * that must leave no trace. Each is asked everything just once, and stays
 * below the 512 calls that the document promises anything for.
 */
final class Twins {
    private Twins() {
    }

    /** The call must throw just this, and the sale must then answer and go on as if there had been no call. */
    static void refuse(Supplier<PastureBids> made, Class<? extends RuntimeException> due, String what,
            Consumer<PastureBids> call) {
        PastureBids sale = made.get();
        Check.throwsJust(due, what, () -> call.accept(sale));
        stayAlike(what, made.get(), sale);
    }

    /** The call must leave no trace; what it answers is not looked at. */
    static void keep(Supplier<PastureBids> made, String what, Consumer<PastureBids> call) {
        PastureBids sale = made.get();
        call.accept(sale);
        stayAlike(what, made.get(), sale);
    }

    private static void stayAlike(String what, PastureBids twin, PastureBids sale) {
        List<String> due = all(twin);
        List<String> got = all(sale);
        for (int answer = 0; answer < Math.min(due.size(), got.size()); answer++) {
            if (!due.get(answer).equals(got.get(answer))) {
                Check.report("behind " + what + " stands " + got.get(answer) + ", due is " + due.get(answer));
            }
        }
        Check.same("how much there is to ask behind " + what, due.size(), got.size());
    }

    private static List<String> all(PastureBids sale) {
        List<String> answers = new ArrayList<>();
        whatThereIs(sale, answers);
        whatWouldBe(sale, answers);
        goOn(sale, answers);
        return answers;
    }

    private static void whatThereIs(PastureBids sale, List<String> answers) {
        for (int what = 0; what <= 8; what++) {
            answers.add("count(" + what + ") = " + sale.count(what));
        }
        for (int field = 0; field < sale.count(0); field++) {
            for (int what = 0; what <= 2; what++) {
                answers.add("land(" + field + ", " + what + ") = " + sale.land(field, what));
                answers.add("alone(" + field + ", " + what + ") = " + sale.alone(field, what));
            }
        }
        for (int bidder = 0; bidder < sale.count(1); bidder++) {
            for (int what = 0; what <= 5; what++) {
                answers.add("about(" + bidder + ", " + what + ") = " + sale.about(bidder, what));
            }
        }
        for (int bid = 0; bid < sale.count(2); bid++) {
            for (int what = 0; what <= 7; what++) {
                answers.add("told(" + bid + ", " + what + ") = " + sale.told(bid, what));
            }
        }
    }

    private static void whatWouldBe(PastureBids sale, List<String> answers) {
        for (int bid = 0; bid < sale.count(2); bid++) {
            answers.add("least(" + bid + ") = " + sale.least(bid));
            answers.add("would(" + bid + ", 500, 2) = " + sale.would(bid, 500, 2));
        }
        answers.add("rival() = " + sale.rival());
        answers.add("mean() = " + sale.mean());
        answers.add("digest() = " + sale.digest());
    }

    private static void goOn(PastureBids sale, List<String> answers) {
        ask(sale, answers, "field(7)", next -> next.field(7));
        ask(sale, answers, "join()", PastureBids::join);
        ask(sale, answers, "bid(0, 1, 33)", next -> next.bid(0, 1, 33));
        ask(sale, answers, "setReserve(0, 3)", next -> next.setReserve(0, 3));
        ask(sale, answers, "setPrice(0, 44)", next -> next.setPrice(0, 44));
        ask(sale, answers, "setWorth(0, 45)", next -> next.setWorth(0, 45));
        ask(sale, answers, "digest() after changes", PastureBids::digest);
        ask(sale, answers, "setIn(0, false)", next -> next.setIn(0, false) ? 1 : 0);
        ask(sale, answers, "withdraw(0)", next -> next.withdraw(0));
        ask(sale, answers, "digest() at the end", PastureBids::digest);
    }

    private static void ask(PastureBids sale, List<String> answers, String name, ToLongFunction<PastureBids> call) {
        String answer;
        try {
            answer = String.valueOf(call.applyAsLong(sale));
        } catch (RuntimeException thrown) {
            answer = thrown.getClass().getSimpleName();
        }
        answers.add(name + " = " + answer);
    }
}
