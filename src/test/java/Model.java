import java.util.ArrayDeque;
import java.util.ArrayList;
import java.util.Arrays;
import java.util.Comparator;
import java.util.Deque;
import java.util.List;
import java.util.NoSuchElementException;
import java.util.function.IntSupplier;
import java.util.regex.Matcher;
import java.util.regex.Pattern;

/** The document written a second time, plainly and without thrift; the class must answer what this answers. */
public final class Model {
    private static final String COMMAND = "(g\\d|l\\d\\d?|c\\d\\*\\d|b|m\\d|p\\d=\\d\\d?|s\\d|d\\d\\d?)";
    private static final Pattern TEXT = Pattern.compile(COMMAND + "(;" + COMMAND + ")*", Pattern.DOTALL);

    private static final class Refusal extends RuntimeException {
        private static final long serialVersionUID = 1L;
        final int why;
        final int detail;

        Refusal(int why, int detail) {
            this.why = why;
            this.detail = detail;
        }
    }

    /** A house is flights, dog, order, due, arrears, footprints, let today (99 for a bone), carried, has a bone. */
    private static final class World {
        final List<int[]> houses = new ArrayList<>();
        final List<int[]> carriers = new ArrayList<>();
        int[] shoes = new int[4];
        int day = 0;
        int place = 0;
        int cart = 0;
        int yard = 100;
        int coins = 20;
        int bones = 3;
        int paid = 0;
        int uphill = 0;

        World copy() {
            World other = new World();
            houses.forEach(house -> other.houses.add(house.clone()));
            carriers.forEach(carrier -> other.carriers.add(carrier.clone()));
            other.shoes = shoes.clone();
            other.day = day;
            other.place = place;
            other.cart = cart;
            other.yard = yard;
            other.coins = coins;
            other.bones = bones;
            other.paid = paid;
            other.uphill = uphill;
            return other;
        }
    }

    private World now = new World();
    private final Deque<World> past = new ArrayDeque<>();
    private World saved = null;
    private String text = "";
    private int fault = -1;
    private int[] reason = null;
    private String line = "";

    private static void refuse(boolean applies, int why, int detail) {
        if (applies) {
            throw new Refusal(why, detail);
        }
    }

    private static void throwIf(boolean applies, RuntimeException exception) {
        if (applies) {
            throw exception;
        }
    }

    private int change(IntSupplier doing) {
        World before = now.copy();
        try {
            int answer = doing.getAsInt();
            past.addLast(before);
            if (past.size() > 8) {
                past.removeFirst();
            }
            return answer;
        } catch (Refusal refusal) {
            now = before;
            reason = new int[] {refusal.why, refusal.detail, 0};
            throw new UnsupportedOperationException();
        }
    }

    public int house(int flights, int dog) {
        return change(() -> {
            refuse(flights < 0 || flights > 9 || dog < 0 || dog > 2, 1, 0);
            refuse(now.houses.size() == 8, 2, 8);
            now.houses.add(new int[] {flights, dog, 0, 0, 0, 0, dog == 0 ? 99 : dog == 1 ? 2 : 0, 0, 0});
            return now.houses.size() - 1;
        });
    }

    private boolean noHouse(int house) {
        return house < 0 || house >= now.houses.size();
    }

    private boolean noCarrier(int carrier) {
        return carrier < 0 || carrier >= now.carriers.size();
    }

    public int order(int house, int sacks) {
        return change(() -> {
            refuse(noHouse(house), 3, house);
            refuse(sacks < 0 || sacks > 4, 1, 0);
            int before = now.houses.get(house)[2];
            now.houses.get(house)[2] = sacks;
            return before;
        });
    }

    public int carrier(int strength) {
        return change(() -> {
            refuse(strength < 1 || strength > 9, 1, 0);
            refuse(now.carriers.size() == 4, 2, 4);
            now.carriers.add(new int[] {strength, 0, 0, 0});
            return now.carriers.size() - 1;
        });
    }

    public int load(int sacks) {
        return change(() -> doLoad(sacks));
    }

    private int doLoad(int sacks) {
        refuse(sacks < 1 || sacks > 30, 1, 0);
        refuse(now.place != 0, 6, now.place);
        refuse(now.yard < sacks, 8, now.yard);
        refuse(now.cart > 30 - sacks, 2, 30);
        now.yard -= sacks;
        now.cart += sacks;
        return now.cart;
    }

    public int drive(int place) {
        return change(() -> doDrive(place));
    }

    private int shoes() {
        return (int) Arrays.stream(now.shoes).filter(worn -> worn != 20).count();
    }

    private int doDrive(int place) {
        refuse(place != 0 && (place < 1 || place > now.houses.size()), 3, place);
        refuse(place == now.place, 4, place);
        refuse(place > now.place && shoes() < 3, 5, shoes());
        while (now.place < place) {
            now.place++;
            now.uphill++;
            for (int shoe = 0; shoe < 4; shoe++) {
                now.shoes[shoe] += now.shoes[shoe] == 20 ? 0 : 1;
            }
        }
        now.place = place;
        return shoes();
    }

    public int carry(int carrier, int sacks) {
        return change(() -> doCarry(carrier, sacks));
    }

    private int doCarry(int carrier, int sacks) {
        refuse(noCarrier(carrier), 3, carrier);
        refuse(sacks < 1 || sacks > 9, 1, 0);
        refuse(now.place == 0, 7, 0);
        int[] house = now.houses.get(now.place - 1);
        int[] who = now.carriers.get(carrier);
        refuse(now.cart < sacks, 8, now.cart);
        refuse(house[3] < sacks, 9, house[3]);
        refuse(house[4] > 12, 10, house[4]);
        refuse(house[5] > 8, 11, house[5]);
        refuse(house[6] < sacks, 12, house[6]);
        int then = who[1];
        for (int sack = 0; sack < sacks; sack++) {
            then += 1 + 6 * house[0] / (5 + who[0]);
        }
        refuse(then > 30, 13, then);
        who[1] = then;
        for (int sack = 0; sack < sacks; sack++) {
            who[2] += who[2] == 9 ? 0 : 1;
            house[5] += who[2] / 3;
        }
        now.cart -= sacks;
        who[3] += sacks;
        house[3] -= sacks;
        house[4] += 3 * sacks;
        house[6] -= house[6] == 99 ? 0 : sacks;
        house[7] += sacks;
        return then;
    }

    public int bone() {
        return change(this::doBone);
    }

    private int doBone() {
        refuse(now.place == 0, 7, 0);
        int[] house = now.houses.get(now.place - 1);
        refuse(house[1] == 0 || house[8] == 1, 14, now.place - 1);
        refuse(now.bones == 0, 15, 0);
        house[6] = 99;
        house[8] = 1;
        now.bones--;
        return now.bones;
    }

    public int bones(int many) {
        return change(() -> {
            refuse(many < 1 || many > 9, 1, 0);
            refuse(now.coins < many, 16, many - now.coins);
            now.coins -= many;
            now.bones += many;
            return now.bones;
        });
    }

    public int mop(int carrier) {
        return change(() -> doMop(carrier));
    }

    private int doMop(int carrier) {
        refuse(noCarrier(carrier), 3, carrier);
        refuse(now.place == 0, 7, 0);
        int[] house = now.houses.get(now.place - 1);
        int footprints = house[5];
        refuse(footprints == 0, 18, now.place - 1);
        int then = now.carriers.get(carrier)[1] + footprints / 2 + footprints % 2;
        refuse(then > 30, 13, then);
        now.carriers.get(carrier)[1] = then;
        house[5] = 0;
        return footprints;
    }

    public int pay(int house, int coins) {
        return change(() -> doPay(house, coins));
    }

    private int doPay(int house, int coins) {
        refuse(noHouse(house), 3, house);
        refuse(coins < 1 || coins > 99, 1, 0);
        int[] payer = now.houses.get(house);
        refuse(payer[4] < coins, 17, payer[4]);
        payer[4] -= coins;
        now.coins += coins;
        now.paid += coins;
        return payer[4];
    }

    public int shoe(int shoe) {
        return change(() -> doShoe(shoe));
    }

    private int doShoe(int shoe) {
        refuse(shoe < 0 || shoe > 3, 3, shoe);
        refuse(now.place != 0, 6, now.place);
        refuse(now.shoes[shoe] == 0, 19, shoe);
        refuse(now.coins < 4, 16, 4 - now.coins);
        int before = now.shoes[shoe];
        now.coins -= 4;
        now.shoes[shoe] = 0;
        return before;
    }

    public int days(int days) {
        return change(() -> doDays(days));
    }

    private int doDays(int days) {
        refuse(days < 1 || days > 30, 1, 0);
        for (int i = 0; i < days; i++) {
            now.day++;
            for (int[] house : now.houses) {
                house[6] = house[1] == 0 ? 99 : house[1] == 1 ? 2 : 0;
                house[8] = 0;
                if (now.day % 7 == 0) {
                    house[3] = house[3] + house[2] > 20 ? 20 : house[3] + house[2];
                }
            }
            for (int[] carrier : now.carriers) {
                carrier[1] = carrier[1] < 8 ? 0 : carrier[1] - 8;
                carrier[2] = 0;
            }
        }
        return total(3);
    }

    private int total(int what) {
        return now.houses.stream().mapToInt(house -> house[what]).sum();
    }

    public int houseOf(int house, int what) {
        throwIf(noHouse(house), new IndexOutOfBoundsException());
        throwIf(what < 0 || what > 7, new IllegalArgumentException());
        return now.houses.get(house)[what];
    }

    public int carrierOf(int carrier, int what) {
        throwIf(noCarrier(carrier), new IndexOutOfBoundsException());
        throwIf(what < 0 || what > 3, new IllegalArgumentException());
        return now.carriers.get(carrier)[what];
    }

    public int shoeOf(int shoe) {
        throwIf(shoe < 0 || shoe > 3, new IndexOutOfBoundsException());
        return now.shoes[shoe];
    }

    public int tires(int carrier, int house) {
        throwIf(noCarrier(carrier) || noHouse(house), new IndexOutOfBoundsException());
        return 1 + 6 * now.houses.get(house)[0] / (5 + now.carriers.get(carrier)[0]);
    }

    public int canCarry(int carrier, int house) {
        int each = tires(carrier, house);
        int sacks = 0;
        while (now.carriers.get(carrier)[1] + (sacks + 1) * each <= 30) {
            sacks++;
        }
        return sacks;
    }

    public int mayCarry(int carrier) {
        throwIf(noCarrier(carrier), new IndexOutOfBoundsException());
        int most = 0;
        World before = now;
        for (int sacks = 1; sacks <= 9; sacks++) {
            now = before.copy();
            try {
                doCarry(carrier, sacks);
                most = sacks;
            } catch (Refusal refusal) {
                sacks = 10;
            }
        }
        now = before;
        return most;
    }

    public int bestCarrier(int house) {
        throwIf(noHouse(house), new IndexOutOfBoundsException());
        List<Integer> able = new ArrayList<>();
        for (int carrier = 0; carrier < now.carriers.size(); carrier++) {
            if (canCarry(carrier, house) > 0) {
                able.add(carrier);
            }
        }
        throwIf(able.isEmpty(), new NoSuchElementException());
        able.sort(Comparator.comparing((Integer carrier) -> -canCarry(carrier, house))
            .thenComparing(carrier -> now.carriers.get(carrier)[2]));
        return able.get(0);
    }

    public int reach() {
        return shoes() >= 3 ? now.houses.size() : now.place;
    }

    public boolean isQuiet(int house) {
        throwIf(noHouse(house), new IndexOutOfBoundsException());
        return now.houses.get(house)[6] != 0;
    }

    public int ranked(int rank) {
        throwIf(rank < 0 || rank >= now.houses.size(), new NoSuchElementException());
        List<Integer> houses = new ArrayList<>();
        for (int house = 0; house < now.houses.size(); house++) {
            houses.add(house);
        }
        houses.sort(Comparator.comparing((Integer house) -> -now.houses.get(house)[4])
            .thenComparing(house -> -now.houses.get(house)[3]));
        return houses.get(rank);
    }

    public int carried() {
        return now.carriers.stream().mapToInt(carrier -> carrier[3]).sum();
    }

    public int carriedAgain() {
        return (now.paid + total(4)) / 3;
    }

    public int append(char character) {
        throwIf(text.length() == 60, new IllegalStateException());
        text += character;
        return text.length();
    }

    public int commands() {
        String whole = text;
        text = "";
        fault = faultOf(whole);
        throwIf(fault >= 0, new IllegalArgumentException());
        String[] each = whole.split(";");
        int[] index = {0};
        try {
            return change(() -> {
                for (; index[0] < each.length; index[0]++) {
                    carryOut(each[index[0]]);
                }
                return each.length;
            });
        } catch (UnsupportedOperationException e) {
            reason[2] = index[0];
            throw e;
        }
    }

    /** The matcher has hit the end just if more characters might still make a text of the part. */
    private static int faultOf(String whole) {
        if (TEXT.matcher(whole).matches()) {
            return -1;
        }
        for (int length = whole.length(); length > 0; length--) {
            Matcher matcher = TEXT.matcher(whole.substring(0, length));
            if (matcher.matches() || matcher.hitEnd()) {
                return length;
            }
        }
        return 0;
    }

    private void carryOut(String command) {
        int first = command.length() > 1 ? command.charAt(1) - '0' : 0;
        switch (command.charAt(0)) {
            case 'g' -> doDrive(first);
            case 'l' -> doLoad(Integer.parseInt(command.substring(1)));
            case 'c' -> doCarry(first, Integer.parseInt(command.substring(3)));
            case 'b' -> doBone();
            case 'm' -> doMop(first);
            case 'p' -> doPay(first, Integer.parseInt(command.substring(3)));
            case 's' -> doShoe(first);
            default -> doDays(Integer.parseInt(command.substring(1)));
        }
    }

    public int faultPosition() {
        return fault;
    }

    public int reason(int what) {
        throwIf(what < 0 || what > 2, new IllegalArgumentException());
        throwIf(reason == null, new NoSuchElementException());
        return reason[what];
    }

    public int line(int house) {
        throwIf(noHouse(house), new IndexOutOfBoundsException());
        int[] written = now.houses.get(house);
        String dog = written[8] == 1 ? "b" : new String[] {"", "z", "!"}[written[1]];
        line = house + ":" + written[3] + "/" + written[4] + "#".repeat((written[5] + 2) / 3) + dog;
        return line.length();
    }

    public char character(int index) {
        throwIf(index < 0 || index >= line.length(), new IndexOutOfBoundsException());
        return line.charAt(index);
    }

    public float meanArrears() {
        throwIf(now.houses.isEmpty(), new ArithmeticException());
        return (float) total(4) / (float) now.houses.size();
    }

    public double paidShare() {
        throwIf(carried() == 0, new ArithmeticException());
        return (double) now.paid / (double) (now.paid + total(4));
    }

    public int account(int what) {
        throwIf(what < 0 || what > 15, new IllegalArgumentException());
        int[] accounts = {now.day, now.houses.size(), now.carriers.size(), now.place, now.cart, now.yard, total(3),
            total(4), total(5), now.coins, now.paid, now.bones, shoes(), now.uphill, past.size(), text.length()};
        return accounts[what];
    }

    public int undo() {
        throwIf(past.isEmpty(), new IllegalStateException());
        now = past.removeLast();
        return past.size();
    }

    public int save() {
        saved = now.copy();
        return now.day;
    }

    public int restore() {
        throwIf(saved == null, new IllegalStateException());
        now = saved.copy();
        past.clear();
        return now.day;
    }
}
