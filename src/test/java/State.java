import java.util.NoSuchElementException;

/** All that an object answers without being changed by it, as a text. */
final class State {
    private State() {
    }

    static String of(CoalStairs x, boolean withReason) {
        StringBuilder state = new StringBuilder(undoable(x));
        state.append(" undo ").append(x.account(14)).append(" text ").append(x.account(15));
        state.append(" fault ").append(x.faultPosition()).append(" line ");
        try {
            for (int i = 0; i < 30; i++) {
                state.append(x.character(i));
            }
        } catch (IndexOutOfBoundsException e) {
            state.append('.');
        }
        if (withReason) {
            state.append(" reason ");
            try {
                state.append(x.reason(0)).append(' ').append(x.reason(1)).append(' ').append(x.reason(2));
            } catch (NoSuchElementException e) {
                state.append("none");
            }
        }
        return state.toString();
    }

    /** All that belongs to what undo and restore bring back. */
    static String undoable(CoalStairs x) {
        StringBuilder state = new StringBuilder("accounts");
        for (int what = 0; what < 14; what++) {
            state.append(' ').append(x.account(what));
        }
        for (int house = 0; house < x.account(1); house++) {
            state.append(" house");
            for (int what = 0; what < 8; what++) {
                state.append(' ').append(x.houseOf(house, what));
            }
        }
        for (int carrier = 0; carrier < x.account(2); carrier++) {
            state.append(" carrier");
            for (int what = 0; what < 4; what++) {
                state.append(' ').append(x.carrierOf(carrier, what));
            }
        }
        state.append(" shoes");
        for (int shoe = 0; shoe < 4; shoe++) {
            state.append(' ').append(x.shoeOf(shoe));
        }
        return state.toString();
    }
}
