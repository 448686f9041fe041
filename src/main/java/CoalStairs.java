import java.util.NoSuchElementException;

/** Carriers of coal on a hill street; ../shared/DOC.md says what each call promises. */
public final class CoalStairs {
    private static final int NONE = -1;
    private static final int REFUSED = -1;

    private static final int OUT_OF_RANGE = 1;
    private static final int TOO_MANY = 2;
    private static final int NO_SUCH = 3;
    private static final int CART_IS_THERE = 4;
    private static final int TOO_FEW_SHOES = 5;
    private static final int CART_NOT_IN_YARD = 6;
    private static final int CART_IN_YARD = 7;
    private static final int TOO_FEW_SACKS = 8;
    private static final int FEWER_DUE = 9;
    private static final int ARREARS_TOO_HIGH = 10;
    private static final int TOO_MANY_FOOTPRINTS = 11;
    private static final int DOG_LETS_NOT = 12;
    private static final int TOO_TIRED = 13;
    private static final int NO_DOG_FOR_BONE = 14;
    private static final int NO_BONE = 15;
    private static final int TOO_FEW_COINS = 16;
    private static final int ARREARS_LESS = 17;
    private static final int NO_FOOTPRINTS = 18;
    private static final int SHOE_NOT_WORN = 19;

    private static final int MOST_HOUSES = 8;
    private static final int MOST_CARRIERS = 4;
    private static final int MOST_FLIGHTS = 9;
    private static final int MOST_STRENGTH = 9;
    private static final int MOST_ORDERED = 4;
    private static final int MOST_DUE = 20;
    private static final int MOST_ON_CART = 30;
    private static final int MOST_IN_A_CARRY = 9;
    private static final int MOST_BONES_BOUGHT = 9;
    private static final int MOST_COINS_PAID = 99;
    private static final int MOST_DAYS = 30;
    private static final int MOST_TIRED = 30;
    private static final int MOST_BLACK = 9;
    private static final int MOST_ARREARS = 12;
    private static final int MOST_FOOTPRINTS = 8;

    private static final int SHOES = 4;
    private static final int SHOES_UPHILL = 3;
    private static final int LOST = 20;
    private static final int SHOE_PRICE = 4;
    private static final int SACK_PRICE = 3;
    private static final int DAYS_OF_WEEK = 7;
    private static final int REST_OF_A_DAY = 8;

    private static final int NO_DOG = 0;
    private static final int SLEEPY = 1;
    private static final int FIERCE = 2;
    private static final int SLEEPY_LETS = 2;
    private static final int AS_MANY_AS_ONE_LIKES = 99;

    private static final int DUE = 3;
    private static final int ARREARS = 4;
    private static final int FOOTPRINTS = 5;
    private static final int LAST_OF_HOUSE = 7;
    private static final int LAST_OF_CARRIER = 3;
    private static final int LAST_OF_REASON = 2;
    private static final int LAST_ACCOUNT = 15;

    private static final int MOST_UNDONE = 8;
    private static final int MOST_CHARACTERS = 60;
    // Even the shortest command but the last takes two characters, with its ";".
    private static final int MOST_COMMANDS = 30;

    // The numbers of the commands are the places of their letters.
    private static final String LETTERS = "glcbmpsd";
    private static final int DRIVE = 0;
    private static final int LOAD = 1;
    private static final int CARRY = 2;
    private static final int BONE = 3;
    private static final int MOP = 4;
    private static final int PAY = 5;
    private static final int SHOE = 6;
    private static final char NO_MARK = 0;
    private static final int[] FIRST_DIGITS = {1, 2, 1, 0, 1, 1, 1, 2};
    private static final char[] MARKS = {NO_MARK, NO_MARK, '*', NO_MARK, NO_MARK, '=', NO_MARK, NO_MARK};
    private static final int[] SECOND_DIGITS = {0, 0, 1, 0, 0, 2, 0, 0};

    private final Work work;
    private final Street street;
    private final Reason kept;
    private final History history;
    private final Street snapshot;
    private boolean hasSnapshot;
    private final CommandText text;
    private int fault;
    private final StringBuilder written;

    public CoalStairs() {
        work = new Work();
        street = work.street;
        kept = work.reason;
        history = new History();
        snapshot = new Street();
        text = new CommandText();
        fault = NONE;
        written = new StringBuilder();
    }

    public int house(int flights, int dog) throws UnsupportedOperationException {
        history.note(street);
        return settled(work.addHouse(flights, dog));
    }

    public int order(int house, int sacks) throws UnsupportedOperationException {
        history.note(street);
        return settled(work.setOrder(house, sacks));
    }

    public int carrier(int strength) throws UnsupportedOperationException {
        history.note(street);
        return settled(work.addCarrier(strength));
    }

    public int load(int sacks) throws UnsupportedOperationException {
        history.note(street);
        return settled(work.loadCart(sacks));
    }

    public int drive(int place) throws UnsupportedOperationException {
        history.note(street);
        return settled(work.driveCart(place));
    }

    public int carry(int carrier, int sacks) throws UnsupportedOperationException {
        history.note(street);
        return settled(work.carryUp(carrier, sacks));
    }

    public int bone() throws UnsupportedOperationException {
        history.note(street);
        return settled(work.giveBone());
    }

    public int bones(int many) throws UnsupportedOperationException {
        history.note(street);
        return settled(work.buyBones(many));
    }

    public int mop(int carrier) throws UnsupportedOperationException {
        history.note(street);
        return settled(work.mopStairs(carrier));
    }

    public int pay(int house, int coins) throws UnsupportedOperationException {
        history.note(street);
        return settled(work.takePay(house, coins));
    }

    public int shoe(int shoe) throws UnsupportedOperationException {
        history.note(street);
        return settled(work.shoeHorse(shoe));
    }

    public int days(int days) throws UnsupportedOperationException {
        history.note(street);
        return settled(work.passDays(days));
    }

    public int houseOf(int house, int what) throws IndexOutOfBoundsException, IllegalArgumentException {
        House found = street.houseAt(house);
        if (found == null) {
            throw new IndexOutOfBoundsException("no such house");
        }
        if (isOutside(what, 0, LAST_OF_HOUSE)) {
            throw new IllegalArgumentException("no such number of a house");
        }
        return found.number(what);
    }

    public int carrierOf(int carrier, int what) throws IndexOutOfBoundsException, IllegalArgumentException {
        Carrier found = street.carrierAt(carrier);
        if (found == null) {
            throw new IndexOutOfBoundsException("no such carrier");
        }
        if (isOutside(what, 0, LAST_OF_CARRIER)) {
            throw new IllegalArgumentException("no such number of a carrier");
        }
        return found.number(what);
    }

    public int shoeOf(int shoe) throws IndexOutOfBoundsException {
        if (isOutside(shoe, 0, SHOES - 1)) {
            throw new IndexOutOfBoundsException("no such shoe");
        }
        return street.worn[shoe];
    }

    public int tires(int carrier, int house) throws IndexOutOfBoundsException {
        Carrier who = street.carrierAt(carrier);
        House where = street.houseAt(house);
        if (who == null || where == null) {
            throw new IndexOutOfBoundsException("no such carrier or house");
        }
        return who.tiredByASack(where);
    }

    public int canCarry(int carrier, int house) throws IndexOutOfBoundsException {
        Carrier who = street.carrierAt(carrier);
        House where = street.houseAt(house);
        if (who == null || where == null) {
            throw new IndexOutOfBoundsException("no such carrier or house");
        }
        return who.sacksUntilTired(where);
    }

    public int mayCarry(int carrier) throws IndexOutOfBoundsException {
        Carrier who = street.carrierAt(carrier);
        if (who == null) {
            throw new IndexOutOfBoundsException("no such carrier");
        }
        return work.mostThatAreLet(who);
    }

    public int bestCarrier(int house) throws IndexOutOfBoundsException, NoSuchElementException {
        House where = street.houseAt(house);
        if (where == null) {
            throw new IndexOutOfBoundsException("no such house");
        }
        int best = street.strongestFor(where);
        if (best == NONE) {
            throw new NoSuchElementException("nobody could carry any");
        }
        return best;
    }

    public int reach() {
        return street.shoesLeft() < SHOES_UPHILL ? street.place : street.houseCount;
    }

    public boolean isQuiet(int house) throws IndexOutOfBoundsException {
        House found = street.houseAt(house);
        if (found == null) {
            throw new IndexOutOfBoundsException("no such house");
        }
        return found.dogStillLets() > 0;
    }

    public int ranked(int rank) throws NoSuchElementException {
        int house = street.houseOfRank(rank);
        if (house == NONE) {
            throw new NoSuchElementException("no such rank");
        }
        return house;
    }

    public int carried() {
        return street.sacksOfCarriers();
    }

    public int carriedAgain() {
        return street.coinsForSacks() / SACK_PRICE;
    }

    public int append(char character) throws IllegalStateException {
        if (text.length >= MOST_CHARACTERS) {
            throw new IllegalStateException("the buffer is full");
        }
        text.characters[text.length] = character;
        text.length++;
        return text.length;
    }

    public int commands() throws IllegalArgumentException, UnsupportedOperationException {
        boolean sound = text.isRead();
        fault = sound ? NONE : text.position;
        text.length = 0;
        if (!sound) {
            throw new IllegalArgumentException("the text has a fault");
        }
        history.note(street);
        if (!allCarriedOut()) {
            history.bringBackNoted(street);
            throw new UnsupportedOperationException("a command is refused");
        }
        history.keepNoted();
        return text.count;
    }

    public int faultPosition() {
        return fault;
    }

    public int reason(int what) throws IllegalArgumentException, NoSuchElementException {
        if (isOutside(what, 0, LAST_OF_REASON)) {
            throw new IllegalArgumentException("no such number of a reason");
        }
        if (kept.why == 0) {
            throw new NoSuchElementException("nothing was refused");
        }
        return what == 0 ? kept.why : what == 1 ? kept.detail : kept.command;
    }

    public int line(int house) throws IndexOutOfBoundsException {
        House found = street.houseAt(house);
        if (found == null) {
            throw new IndexOutOfBoundsException("no such house");
        }
        written.setLength(0);
        written.append(house).append(':').append(found.due).append('/').append(found.arrears);
        for (int prints = 0; prints < found.footprints; prints += 3) {
            written.append('#');
        }
        found.writeDog(written);
        return written.length();
    }

    public char character(int index) throws IndexOutOfBoundsException {
        if (index < 0 || index >= written.length()) {
            throw new IndexOutOfBoundsException("no such index");
        }
        return written.charAt(index);
    }

    public float meanArrears() throws ArithmeticException {
        if (street.houseCount == 0) {
            throw new ArithmeticException("there are no houses");
        }
        return (float) street.sumOf(ARREARS) / (float) street.houseCount;
    }

    public double paidShare() throws ArithmeticException {
        int coins = street.coinsForSacks();
        // Each sack costs coins, so none was carried up just if there are no coins for any.
        if (coins == 0) {
            throw new ArithmeticException("no sack was carried up");
        }
        return (double) street.paid / (double) coins;
    }

    public int account(int what) throws IllegalArgumentException {
        if (isOutside(what, 0, LAST_ACCOUNT)) {
            throw new IllegalArgumentException("no such account");
        }
        if (what == 14) {
            return history.count;
        }
        if (what == 15) {
            return text.length;
        }
        return street.number(what);
    }

    public int undo() throws IllegalStateException {
        if (history.count == 0) {
            throw new IllegalStateException("nothing can be undone");
        }
        history.bringBackLatest(street);
        return history.count;
    }

    public int save() {
        snapshot.copyFrom(street);
        hasSnapshot = true;
        return street.day;
    }

    public int restore() throws IllegalStateException {
        if (!hasSnapshot) {
            throw new IllegalStateException("there is no snapshot");
        }
        street.copyFrom(snapshot);
        history.forget();
        return street.day;
    }

    private int settled(int answer) {
        if (answer == REFUSED) {
            throw new UnsupportedOperationException("refused");
        }
        history.keepNoted();
        return answer;
    }

    private boolean allCarriedOut() {
        for (int i = 0; i < text.count && i < MOST_COMMANDS; i++) {
            if (work.carryOut(text.kinds[i], text.firsts[i], text.seconds[i]) == REFUSED) {
                kept.command = i;
                return false;
            }
        }
        return true;
    }

    private static boolean isOutside(int number, int least, int most) {
        return number < least || number > most;
    }

    /** A house; a new one is all zeros. */
    private static final class House {
        int flights;
        int dog;
        int ordered;
        int due;
        int arrears;
        int footprints;
        int carriedToday;
        boolean hasBone;
        int carriedSoFar;

        void copyFrom(House other) {
            flights = other.flights;
            dog = other.dog;
            ordered = other.ordered;
            due = other.due;
            arrears = other.arrears;
            footprints = other.footprints;
            carriedToday = other.carriedToday;
            hasBone = other.hasBone;
            carriedSoFar = other.carriedSoFar;
        }

        int number(int what) {
            switch (what) {
                case 0:
                    return flights;
                case 1:
                    return dog;
                case 2:
                    return ordered;
                case DUE:
                    return due;
                case ARREARS:
                    return arrears;
                case FOOTPRINTS:
                    return footprints;
                case 6:
                    return dogStillLets();
                default:
                    return carriedSoFar;
            }
        }

        int dogStillLets() {
            if (dog == NO_DOG || hasBone) {
                return AS_MANY_AS_ONE_LIKES;
            }
            return dog == FIERCE ? 0 : Math.max(0, SLEEPY_LETS - carriedToday);
        }

        void takeSack(int black) {
            due--;
            arrears += SACK_PRICE;
            footprints += black / 3;
            carriedToday++;
            carriedSoFar++;
        }

        void beginDay() {
            carriedToday = 0;
            hasBone = false;
        }

        void beginWeek() {
            due = Math.min(MOST_DUE, due + ordered);
        }

        void writeDog(StringBuilder line) {
            if (hasBone) {
                line.append('b');
            } else if (dog == SLEEPY) {
                line.append('z');
            } else if (dog == FIERCE) {
                line.append('!');
            }
        }
    }

    /** A carrier; a new one is all zeros but for the strength. */
    private static final class Carrier {
        int strength;
        int tired;
        int black;
        int carriedSoFar;

        void copyFrom(Carrier other) {
            strength = other.strength;
            tired = other.tired;
            black = other.black;
            carriedSoFar = other.carriedSoFar;
        }

        int number(int what) {
            switch (what) {
                case 0:
                    return strength;
                case 1:
                    return tired;
                case 2:
                    return black;
                default:
                    return carriedSoFar;
            }
        }

        int tiredByASack(House house) {
            int divisor = 5 + strength;
            return divisor <= 0 ? 1 : 1 + 6 * house.flights / divisor;
        }

        int sacksUntilTired(House house) {
            int each = tiredByASack(house);
            return each <= 0 ? 0 : (MOST_TIRED - tired) / each;
        }

        void carrySack(House house) {
            tired += tiredByASack(house);
            black = Math.min(MOST_BLACK, black + 1);
            carriedSoFar++;
            house.takeSack(black);
        }

        void beginDay() {
            tired = Math.max(0, tired - REST_OF_A_DAY);
            black = 0;
        }
    }

    /** All that can be undone; houses and carriers above the counts are as new ones. */
    private static final class Street {
        final House[] houses = new House[MOST_HOUSES];
        final Carrier[] carriers = new Carrier[MOST_CARRIERS];
        final int[] worn = new int[SHOES];
        int houseCount;
        int carrierCount;
        int day;
        int place;
        int onCart;
        int inYard = 100;
        int coins = 20;
        int bonesLeft = 3;
        int paid;
        int uphill;

        Street() {
            for (int i = 0; i < MOST_HOUSES; i++) {
                houses[i] = new House();
            }
            for (int i = 0; i < MOST_CARRIERS; i++) {
                carriers[i] = new Carrier();
            }
        }

        void copyFrom(Street other) {
            for (int i = 0; i < MOST_HOUSES; i++) {
                houses[i].copyFrom(other.houses[i]);
            }
            for (int i = 0; i < MOST_CARRIERS; i++) {
                carriers[i].copyFrom(other.carriers[i]);
            }
            for (int i = 0; i < SHOES; i++) {
                worn[i] = other.worn[i];
            }
            houseCount = other.houseCount;
            carrierCount = other.carrierCount;
            day = other.day;
            place = other.place;
            onCart = other.onCart;
            inYard = other.inYard;
            coins = other.coins;
            bonesLeft = other.bonesLeft;
            paid = other.paid;
            uphill = other.uphill;
        }

        House houseAt(int number) {
            return isOutside(number, 0, houseCount - 1) ? null : houses[number];
        }

        House houseHere() {
            return houseAt(place - 1);
        }

        Carrier carrierAt(int number) {
            return isOutside(number, 0, carrierCount - 1) ? null : carriers[number];
        }

        int shoesLeft() {
            int left = 0;
            for (int i = 0; i < SHOES; i++) {
                if (worn[i] < LOST) {
                    left++;
                }
            }
            return left;
        }

        void goUphill(int places) {
            for (int i = 0; i < SHOES; i++) {
                worn[i] = Math.min(LOST, worn[i] + places);
            }
            uphill += places;
        }

        void beginDay() {
            day++;
            boolean newWeek = day % DAYS_OF_WEEK == 0;
            for (int i = 0; i < houseCount; i++) {
                houses[i].beginDay();
                if (newWeek) {
                    houses[i].beginWeek();
                }
            }
            for (int i = 0; i < carrierCount; i++) {
                carriers[i].beginDay();
            }
        }

        int sumOf(int what) {
            int sum = 0;
            for (int i = 0; i < houseCount; i++) {
                sum += houses[i].number(what);
            }
            return sum;
        }

        int sacksOfCarriers() {
            int sacks = 0;
            for (int i = 0; i < carrierCount; i++) {
                sacks += carriers[i].carriedSoFar;
            }
            return sacks;
        }

        int coinsForSacks() {
            return paid + sumOf(ARREARS);
        }

        int strongestFor(House house) {
            int best = NONE;
            int most = 0;
            int leastBlack = 0;
            for (int i = 0; i < carrierCount; i++) {
                int sacks = carriers[i].sacksUntilTired(house);
                boolean blackDecides = best != NONE && sacks == most;
                if (sacks > most || blackDecides && carriers[i].black < leastBlack) {
                    best = i;
                    most = sacks;
                    leastBlack = carriers[i].black;
                }
            }
            return best;
        }

        int houseOfRank(int rank) {
            for (int i = 0; i < houseCount; i++) {
                int ahead = 0;
                for (int j = 0; j < houseCount; j++) {
                    if (isAhead(j, i)) {
                        ahead++;
                    }
                }
                if (ahead == rank) {
                    return i;
                }
            }
            return NONE;
        }

        private boolean isAhead(int one, int other) {
            House first = houseAt(one);
            House second = houseAt(other);
            if (first == null || second == null) {
                return false;
            }
            if (first.arrears != second.arrears) {
                return first.arrears > second.arrears;
            }
            return first.due != second.due ? first.due > second.due : one < other;
        }

        int number(int what) {
            switch (what) {
                case 0:
                    return day;
                case 1:
                    return houseCount;
                case 2:
                    return carrierCount;
                case 3:
                    return place;
                case 4:
                    return onCart;
                case 5:
                    return inYard;
                case 6:
                    return sumOf(DUE);
                case 7:
                    return sumOf(ARREARS);
                case 8:
                    return sumOf(FOOTPRINTS);
                case 9:
                    return coins;
                case 10:
                    return paid;
                case 11:
                    return bonesLeft;
                case 12:
                    return shoesLeft();
                default:
                    return uphill;
            }
        }
    }

    /** Why the latest refused call was refused; why is 0 if none was. */
    private static final class Reason {
        int why;
        int detail;
        int command;

        int refuse(int newWhy, int newDetail) {
            why = newWhy;
            detail = newDetail;
            command = 0;
            return REFUSED;
        }
    }

    /** The changes: each answers what its method returns, or REFUSED, with nothing changed but the reason. */
    private static final class Work {
        final Street street = new Street();
        final Reason reason = new Reason();

        int addHouse(int flights, int dog) {
            if (isOutside(flights, 0, MOST_FLIGHTS) || isOutside(dog, NO_DOG, FIERCE)) {
                return reason.refuse(OUT_OF_RANGE, 0);
            }
            int number = street.houseCount;
            if (number >= MOST_HOUSES) {
                return reason.refuse(TOO_MANY, MOST_HOUSES);
            }
            street.houses[number].flights = flights;
            street.houses[number].dog = dog;
            street.houseCount++;
            return number;
        }

        int setOrder(int number, int sacks) {
            House house = street.houseAt(number);
            if (house == null) {
                return reason.refuse(NO_SUCH, number);
            }
            if (isOutside(sacks, 0, MOST_ORDERED)) {
                return reason.refuse(OUT_OF_RANGE, 0);
            }
            int before = house.ordered;
            house.ordered = sacks;
            return before;
        }

        int addCarrier(int strength) {
            if (isOutside(strength, 1, MOST_STRENGTH)) {
                return reason.refuse(OUT_OF_RANGE, 0);
            }
            int number = street.carrierCount;
            if (number >= MOST_CARRIERS) {
                return reason.refuse(TOO_MANY, MOST_CARRIERS);
            }
            street.carriers[number].strength = strength;
            street.carrierCount++;
            return number;
        }

        int loadCart(int sacks) {
            if (isOutside(sacks, 1, MOST_ON_CART)) {
                return reason.refuse(OUT_OF_RANGE, 0);
            }
            if (street.place != 0) {
                return reason.refuse(CART_NOT_IN_YARD, street.place);
            }
            if (sacks > street.inYard) {
                return reason.refuse(TOO_FEW_SACKS, street.inYard);
            }
            if (street.onCart + sacks > MOST_ON_CART) {
                return reason.refuse(TOO_MANY, MOST_ON_CART);
            }
            street.inYard -= sacks;
            street.onCart += sacks;
            return street.onCart;
        }

        int driveCart(int place) {
            if (isOutside(place, 0, street.houseCount)) {
                return reason.refuse(NO_SUCH, place);
            }
            if (place == street.place) {
                return reason.refuse(CART_IS_THERE, place);
            }
            int shoes = street.shoesLeft();
            if (place > street.place && shoes < SHOES_UPHILL) {
                return reason.refuse(TOO_FEW_SHOES, shoes);
            }
            street.goUphill(Math.max(0, place - street.place));
            street.place = place;
            return street.shoesLeft();
        }

        int carryUp(int number, int sacks) {
            Carrier carrier = street.carrierAt(number);
            if (carrier == null) {
                return reason.refuse(NO_SUCH, number);
            }
            if (isOutside(sacks, 1, MOST_IN_A_CARRY)) {
                return reason.refuse(OUT_OF_RANGE, 0);
            }
            House house = street.houseHere();
            if (house == null) {
                return reason.refuse(CART_IN_YARD, 0);
            }
            if (isRefusedByHouse(house, sacks)) {
                return REFUSED;
            }
            int tiredThen = carrier.tired + sacks * carrier.tiredByASack(house);
            if (tiredThen > MOST_TIRED) {
                return reason.refuse(TOO_TIRED, tiredThen);
            }
            for (int i = 0; i < sacks; i++) {
                carrier.carrySack(house);
            }
            street.onCart -= sacks;
            return carrier.tired;
        }

        private boolean isRefusedByHouse(House house, int sacks) {
            int answer = 0;
            if (sacks > street.onCart) {
                answer = reason.refuse(TOO_FEW_SACKS, street.onCart);
            } else if (sacks > house.due) {
                answer = reason.refuse(FEWER_DUE, house.due);
            } else if (house.arrears > MOST_ARREARS) {
                answer = reason.refuse(ARREARS_TOO_HIGH, house.arrears);
            } else if (house.footprints > MOST_FOOTPRINTS) {
                answer = reason.refuse(TOO_MANY_FOOTPRINTS, house.footprints);
            } else if (sacks > house.dogStillLets()) {
                answer = reason.refuse(DOG_LETS_NOT, house.dogStillLets());
            }
            return answer == REFUSED;
        }

        int mostThatAreLet(Carrier carrier) {
            House house = street.houseHere();
            if (house == null || house.arrears > MOST_ARREARS || house.footprints > MOST_FOOTPRINTS) {
                return 0;
            }
            int there = Math.min(street.onCart, house.due);
            int let = Math.min(house.dogStillLets(), carrier.sacksUntilTired(house));
            return Math.min(MOST_IN_A_CARRY, Math.min(there, let));
        }

        int giveBone() {
            House house = street.houseHere();
            if (house == null) {
                return reason.refuse(CART_IN_YARD, 0);
            }
            if (house.dog == NO_DOG || house.hasBone) {
                return reason.refuse(NO_DOG_FOR_BONE, street.place - 1);
            }
            if (street.bonesLeft < 1) {
                return reason.refuse(NO_BONE, 0);
            }
            house.hasBone = true;
            street.bonesLeft--;
            return street.bonesLeft;
        }

        int buyBones(int many) {
            if (isOutside(many, 1, MOST_BONES_BOUGHT)) {
                return reason.refuse(OUT_OF_RANGE, 0);
            }
            if (many > street.coins) {
                return reason.refuse(TOO_FEW_COINS, many - street.coins);
            }
            street.coins -= many;
            street.bonesLeft += many;
            return street.bonesLeft;
        }

        int mopStairs(int number) {
            Carrier carrier = street.carrierAt(number);
            if (carrier == null) {
                return reason.refuse(NO_SUCH, number);
            }
            House house = street.houseHere();
            if (house == null) {
                return reason.refuse(CART_IN_YARD, 0);
            }
            int footprints = house.footprints;
            if (footprints == 0) {
                return reason.refuse(NO_FOOTPRINTS, street.place - 1);
            }
            int tiredThen = carrier.tired + (footprints + 1) / 2;
            if (tiredThen > MOST_TIRED) {
                return reason.refuse(TOO_TIRED, tiredThen);
            }
            carrier.tired = tiredThen;
            house.footprints = 0;
            return footprints;
        }

        int takePay(int number, int coins) {
            House house = street.houseAt(number);
            if (house == null) {
                return reason.refuse(NO_SUCH, number);
            }
            if (isOutside(coins, 1, MOST_COINS_PAID)) {
                return reason.refuse(OUT_OF_RANGE, 0);
            }
            if (house.arrears < coins) {
                return reason.refuse(ARREARS_LESS, house.arrears);
            }
            house.arrears -= coins;
            street.coins += coins;
            street.paid += coins;
            return house.arrears;
        }

        int shoeHorse(int shoe) {
            if (isOutside(shoe, 0, SHOES - 1)) {
                return reason.refuse(NO_SUCH, shoe);
            }
            if (street.place != 0) {
                return reason.refuse(CART_NOT_IN_YARD, street.place);
            }
            int before = street.worn[shoe];
            if (before == 0) {
                return reason.refuse(SHOE_NOT_WORN, shoe);
            }
            if (street.coins < SHOE_PRICE) {
                return reason.refuse(TOO_FEW_COINS, SHOE_PRICE - street.coins);
            }
            street.coins -= SHOE_PRICE;
            street.worn[shoe] = 0;
            return before;
        }

        int passDays(int days) {
            if (isOutside(days, 1, MOST_DAYS)) {
                return reason.refuse(OUT_OF_RANGE, 0);
            }
            for (int i = 0; i < days; i++) {
                street.beginDay();
            }
            return street.sumOf(DUE);
        }

        int carryOut(int kind, int first, int second) {
            switch (kind) {
                case DRIVE:
                    return driveCart(first);
                case LOAD:
                    return loadCart(first);
                case CARRY:
                    return carryUp(first, second);
                case BONE:
                    return giveBone();
                case MOP:
                    return mopStairs(first);
                case PAY:
                    return takePay(first, second);
                case SHOE:
                    return shoeHorse(first);
                default:
                    return passDays(first);
            }
        }
    }

    /** The streets before the latest changes, in a ring; one row more than is kept takes a change that may be refused. */
    private static final class History {
        static final int ROWS = MOST_UNDONE + 1;
        final Street[] rows = new Street[ROWS];
        int next;
        int count;

        History() {
            for (int i = 0; i < ROWS; i++) {
                rows[i] = new Street();
            }
        }

        void note(Street street) {
            rows[next].copyFrom(street);
        }

        void bringBackNoted(Street street) {
            street.copyFrom(rows[next]);
        }

        void keepNoted() {
            next = (next + 1) % ROWS;
            count = Math.min(MOST_UNDONE, count + 1);
        }

        void bringBackLatest(Street street) {
            next = (next + ROWS - 1) % ROWS;
            count--;
            street.copyFrom(rows[next]);
        }

        void forget() {
            count = 0;
        }
    }

    /** The text buffer, and the commands that were read from it. */
    private static final class CommandText {
        final char[] characters = new char[MOST_CHARACTERS];
        final int[] kinds = new int[MOST_COMMANDS];
        final int[] firsts = new int[MOST_COMMANDS];
        final int[] seconds = new int[MOST_COMMANDS];
        int length;
        int count;
        int position;
        private int numberRead;

        /** Whether the text has no fault; if it has one, position is the fault position. */
        boolean isRead() {
            position = 0;
            count = 0;
            for (int i = 0; i < MOST_COMMANDS; i++) {
                if (!isCommandRead()) {
                    return false;
                }
                if (position == length) {
                    return true;
                }
                if (!isMarkRead(';')) {
                    return false;
                }
            }
            return false;
        }

        private boolean isCommandRead() {
            int kind = position < length ? LETTERS.indexOf(characters[position]) : NONE;
            if (kind < 0 || kind >= MARKS.length || count >= MOST_COMMANDS) {
                return false;
            }
            position++;
            if (!isNumberRead(FIRST_DIGITS[kind])) {
                return false;
            }
            int first = numberRead;
            if (MARKS[kind] != NO_MARK && !isMarkRead(MARKS[kind])) {
                return false;
            }
            if (!isNumberRead(SECOND_DIGITS[kind])) {
                return false;
            }
            kinds[count] = kind;
            firsts[count] = first;
            seconds[count] = numberRead;
            count++;
            return true;
        }

        private boolean isMarkRead(char mark) {
            if (position >= length || characters[position] != mark) {
                return false;
            }
            position++;
            return true;
        }

        private boolean isNumberRead(int mostDigits) {
            numberRead = 0;
            int digits = 0;
            while (digits < mostDigits && isDigitNext()) {
                numberRead = 10 * numberRead + characters[position] - '0';
                position++;
                digits++;
            }
            return digits > 0 || mostDigits == 0;
        }

        private boolean isDigitNext() {
            return position < length && characters[position] >= '0' && characters[position] <= '9';
        }
    }
}
