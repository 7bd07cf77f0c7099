/** A province whose taxes are let out at auction. What each call does is told in DOC.md. */
public final class Publicanry {
    private static final int NONE = -1;

    private static final int MOST_VILLAGES = 8;
    private static final int MOST_COMPANIES = 4;
    private static final int MOST_PARTNERS = 5;
    private static final int MOST_LOTS = 8;
    private static final int DUTIES = 3;
    private static final int TENTH = 0;
    private static final int PASTURE = 1;
    private static final int HEARTH = 2;

    private static final int SPRING = 0;
    private static final int SUMMER = 1;
    private static final int AUTUMN = 2;
    private static final int WINTER = 3;
    private static final int SEASONS = 4;
    private static final int LAST_SEASON = 160;

    private static final int MOST_LAND = 600;
    private static final int MOST_UNREST = 20;
    private static final int MOST_FORCE = 3;
    private static final int AGENTS_FORCE = 3;
    private static final int CLERKS_FORCE = 1;
    private static final int CLERKS_WAGE = 4;
    private static final int JUDGES = 7;

    private static final int OFFERED = 0;
    private static final int LEASED = 1;
    private static final int OVER = 2;
    private static final int FAILED = 3;

    private static final int SUIT_LOST = 0;
    private static final int SUIT_WON = 1;
    private static final int SUIT_SET_ASIDE = 2;

    private final Chest treasury;
    private final Chest governor;
    private final Chest world;
    private final Duty[] duties;
    private final Village[] villages;
    private final Company[] companies;
    private final Lot[] lots;
    private int villageCount;
    private int companyCount;
    private int lotCount;
    private int season;
    private int sky;
    private int lawNumber;
    private int bidderJudges;
    private int evidence;
    private int suitsWon;
    private int suitsLost;
    private int suitsSetAside;
    private int refused;

    private static final class Chest {
        private final boolean isEndless;
        private int coins;

        private Chest(boolean isEndless) {
            this.isEndless = isEndless;
        }

        private int payTo(Chest to, int amount) {
            int paid = isEndless || coins >= amount ? amount : coins;
            coins -= paid;
            to.coins += paid;
            return paid;
        }
    }

    private static final class Duty {
        private final int number;
        private int rate;
        private int exempt;
        private int toldRate = NONE;
        private int toldExempt;
        private boolean isByClerks;
        private int clerksBrought;

        private Duty(int number, int rate) {
            this.number = number;
            this.rate = rate;
        }
    }

    private static final class Levy {
        private Company company;
        private int lotNumber = NONE;
        private int year = NONE;
        private int asked = NONE;
        private int got = NONE;
        private int dueByLaw = NONE;
        private boolean isSued;
    }

    private static final class Village {
        private final int number;
        private final Chest chest = new Chest(false);
        private final Levy[] levies = new Levy[DUTIES];
        private final int[] stoneRates = new int[DUTIES];
        private final boolean[] stoneExempts = new boolean[DUTIES];
        private int stoneNumber;
        private int houses;
        private int fields;
        private int herd;
        private int soil;
        private int grain;
        private int debt;
        private int unrest;
        private int register;
        private int crop;
        private int fled;
        private boolean isInRevolt;
        private boolean isBurnt;

        private Village(int number) {
            this.number = number;
            for (int k = 0; k < levies.length; k++) {
                levies[k] = new Levy();
            }
        }

        private void stir(int more) {
            unrest = hold(unrest + more, 0, MOST_UNREST);
        }

        private int cropWith(int ofSky) {
            int whole = fields * soil * (ofSky + 2) / 60;
            return isBurnt ? whole / 2 : whole;
        }

        private int dueWith(int duty, int rate) {
            switch (duty) {
                case TENTH:
                    return crop * rate / 1000;
                case PASTURE:
                    return herd * rate / 100;
                default:
                    return houses * rate;
            }
        }

        private int hiddenOf(int asked, int force) {
            return asked * hold(6 + unrest / 4 - 2 * force, 0, 12) / 16;
        }

        private boolean isBad() {
            return crop < register * soil * 7 / 120;
        }
    }

    private static final class Company {
        private final int number;
        private final Chest chest = new Chest(false);
        private final int[] shares = new int[MOST_PARTNERS];
        private final int[] told = new int[MOST_PARTNERS];
        private int partners;
        private int land;
        private int ringNumber;
        private int forceNumber;
        private int credit;
        private int gifts;
        private int brought;
        private int paidInstalments;
        private boolean isBanned;

        private Company(int number) {
            this.number = number;
        }

        private int allShares() {
            int all = 0;
            for (int k = 0; k < partners; k++) {
                all += shares[k];
            }
            return all;
        }

        private boolean isInRingWith(Company other) {
            return ringNumber != 0 && ringNumber == other.ringNumber;
        }
    }

    private static final class Lot {
        private final int number;
        private final int[] bids = new int[MOST_COMPANIES];
        /** A price is 1 or more, so 0 tells a village that is not let on. */
        private final int[] letPrices = new int[MOST_VILLAGES];
        private Company company;
        private int duty;
        private int set;
        private int term;
        private int minimum;
        private int standing;
        private int price;
        private int autumnsLeft;
        private int remitted;
        private int remittedYear = NONE;
        private int fellDue;

        private Lot(int number) {
            this.number = number;
        }

        private boolean isOpen() {
            return standing == OFFERED || standing == LEASED;
        }

        private boolean isLeasedFor(int ofDuty, int village) {
            return standing == LEASED && duty == ofDuty && contains(set, village);
        }

        private boolean isLeasedBy(Company of) {
            return standing == LEASED && company == of;
        }

        private boolean sharesWith(int ofDuty, int ofSet) {
            return isOpen() && duty == ofDuty && (set & ofSet) != 0;
        }

        private int pledge() {
            return price / 4;
        }

        private int instalment() {
            return term < 1 ? 0 : price / term;
        }

        private int firstInstalment() {
            return term < 1 ? 0 : price / term + price % term;
        }

        private int highestBid() {
            int highest = 0;
            for (int k = 0; k < bids.length; k++) {
                highest = Math.max(highest, bids[k]);
            }
            return highest;
        }

        private int lets() {
            int many = 0;
            for (int k = 0; k < letPrices.length; k++) {
                many += letPrices[k] > 0 ? 1 : 0;
            }
            return many;
        }
    }

    public Publicanry() {
        treasury = new Chest(false);
        governor = new Chest(false);
        world = new Chest(true);
        duties = new Duty[DUTIES];
        duties[TENTH] = new Duty(TENTH, 100);
        duties[PASTURE] = new Duty(PASTURE, 10);
        duties[HEARTH] = new Duty(HEARTH, 2);
        villages = new Village[MOST_VILLAGES];
        for (int k = 0; k < MOST_VILLAGES; k++) {
            villages[k] = new Village(k);
        }
        companies = new Company[MOST_COMPANIES];
        for (int k = 0; k < MOST_COMPANIES; k++) {
            companies[k] = new Company(k);
        }
        lots = new Lot[MOST_LOTS];
        for (int k = 0; k < MOST_LOTS; k++) {
            lots[k] = new Lot(k);
        }
        sky = 5;
        bidderJudges = 3;
    }

    // ---- land and laws

    public int village(int houses, int fields, int herd, int soil)
            throws IllegalArgumentException, IllegalStateException {
        need(isIn(houses, 1, 90) && isIn(fields, 0, MOST_LAND) && isIn(herd, 0, MOST_LAND) && isIn(soil, 1, 9));
        allow(villageCount < MOST_VILLAGES);
        Village of = villages[villageCount];
        villageCount++;
        of.houses = houses;
        of.fields = fields;
        of.herd = herd;
        of.soil = soil;
        of.grain = 4 * houses;
        of.register = fields;
        cutStone(of);
        return of.number;
    }

    public int clear(int village, int more) throws IndexOutOfBoundsException, IllegalArgumentException {
        Village of = villageAt(village);
        need(isIn(more, 1, 100));
        of.fields = Math.min(of.fields + more, MOST_LAND);
        return of.fields;
    }

    public int survey(int village) throws IndexOutOfBoundsException {
        Village of = villageAt(village);
        int before = of.register;
        of.register = of.fields;
        treasury.payTo(world, 2 + of.fields / 50);
        return before;
    }

    public int war(int villages) throws IllegalArgumentException {
        need(villages >= 0 && areThere(villages));
        int burnt = 0;
        for (int k = 0; k < villageCount; k++) {
            Village of = this.villages[k];
            if (contains(villages, k)) {
                of.isBurnt = true;
            }
            burnt += of.isBurnt ? 1 : 0;
        }
        return burnt;
    }

    public int edict(int duty, int rate, int exempt) throws IndexOutOfBoundsException, IllegalArgumentException {
        Duty of = dutyAt(duty);
        need(isIn(rate, 0, highestRate(duty)) && isIn(exempt, 0, 255));
        of.toldRate = rate;
        of.toldExempt = exempt;
        return lawNumber + 1;
    }

    public int cut(int village) throws IndexOutOfBoundsException {
        Village of = villageAt(village);
        int before = of.stoneNumber;
        cutStone(of);
        treasury.payTo(world, 3);
        return before;
    }

    private static int highestRate(int duty) {
        switch (duty) {
            case TENTH:
                return 300;
            case PASTURE:
                return 60;
            default:
                return 9;
        }
    }

    private void cutStone(Village of) {
        of.stoneNumber = lawNumber;
        for (int k = 0; k < DUTIES; k++) {
            of.stoneRates[k] = duties[k].rate;
            of.stoneExempts[k] = contains(duties[k].exempt, of.number);
        }
    }

    private int dueByStone(Village of, Duty duty) {
        int k = duty.number;
        return of.stoneExempts[k] ? 0 : of.dueWith(k, of.stoneRates[k]);
    }

    private int dueByLaw(Village of, Duty duty) {
        return contains(duty.exempt, of.number) ? 0 : of.dueWith(duty.number, duty.rate);
    }

    // ---- companies and lots

    public int company(int land, int ring) throws IllegalArgumentException, IllegalStateException {
        need(isIn(land, 0, 2000) && isIn(ring, 0, 3));
        allow(companyCount < MOST_COMPANIES);
        Company of = companies[companyCount];
        companyCount++;
        of.land = land;
        of.ringNumber = ring;
        return of.number;
    }

    public int join(int company, int shares)
            throws IndexOutOfBoundsException, IllegalArgumentException, IllegalStateException {
        Company of = companyAt(company);
        need(isIn(shares, 1, 99));
        int partner = of.partners;
        allow(partner < MOST_PARTNERS);
        of.shares[partner] = shares;
        of.partners++;
        world.payTo(of.chest, 4 * shares);
        return partner;
    }

    public int shareOut(int company, int amount)
            throws IndexOutOfBoundsException, IllegalArgumentException, IllegalStateException {
        Company of = companyAt(company);
        need(amount >= 1);
        allow(of.partners > 0 && of.chest.coins >= amount);
        of.chest.payTo(world, amount);
        tellPartners(of, amount);
        return of.chest.coins;
    }

    private static void tellPartners(Company of, int amount) {
        int all = of.allShares();
        if (all < 1) {
            return;
        }
        int left = amount;
        for (int k = 0; k < of.partners; k++) {
            int part = (int) ((long) amount * of.shares[k] / all);
            of.told[k] += part;
            left -= part;
        }
        for (int k = 0; k < of.partners; k++) {
            if (placeByRest(of, k, amount, all) < left) {
                of.told[k]++;
            }
        }
    }

    /** How many partners come before this one as what is left over is told. */
    private static int placeByRest(Company of, int partner, int amount, int all) {
        long rest = restOf(of, partner, amount, all);
        int before = 0;
        for (int k = 0; k < of.partners; k++) {
            long other = restOf(of, k, amount, all);
            if (other > rest || other == rest && k < partner) {
                before++;
            }
        }
        return before;
    }

    private static long restOf(Company of, int partner, int amount, int all) {
        return all < 1 ? 0 : (long) amount * of.shares[partner] % all;
    }

    public int ring(int company, int ring) throws IndexOutOfBoundsException, IllegalArgumentException {
        Company of = companyAt(company);
        need(isIn(ring, 0, 3));
        int before = of.ringNumber;
        of.ringNumber = ring;
        return before;
    }

    public int lot(int duty, int villages, int term, int minimum)
            throws IndexOutOfBoundsException, IllegalArgumentException, IllegalStateException {
        dutyAt(duty);
        need(villages >= 1 && areThere(villages) && isIn(term, 1, 5) && isIn(minimum, 0, 5000));
        allow(lotCount < MOST_LOTS && !isTaken(duty, villages));
        Lot of = lots[lotCount];
        lotCount++;
        of.duty = duty;
        of.set = villages;
        of.term = term;
        of.minimum = minimum;
        of.standing = OFFERED;
        return of.number;
    }

    private boolean isTaken(int duty, int set) {
        for (int k = 0; k < lotCount; k++) {
            if (lots[k].sharesWith(duty, set)) {
                return true;
            }
        }
        return false;
    }

    public int bid(int company, int lot, int amount)
            throws IndexOutOfBoundsException, IllegalArgumentException, IllegalStateException {
        Company by = companyAt(company);
        Lot of = lotAt(lot);
        need(isIn(amount, 1, 9000));
        allow(of.standing == OFFERED && canStandFor(by, amount));
        of.bids[company] = amount;
        return of.highestBid();
    }

    public int award(int lot) throws IndexOutOfBoundsException, IllegalStateException {
        Lot of = lotAt(lot);
        allow(of.standing == OFFERED);
        Company winner = highestBidder(of, null);
        if (winner == null) {
            of.standing = FAILED;
            return NONE;
        }
        of.price = of.bids[winner.number];
        Company second = highestBidder(of, winner);
        if (second != null && winner.isInRingWith(second)) {
            of.price = of.minimum;
            payRing(of, winner);
        }
        of.company = winner;
        of.standing = LEASED;
        of.autumnsLeft = of.term;
        fallDue(of, of.firstInstalment());
        return winner.number;
    }

    private void payRing(Lot of, Company winner) {
        int tenth = (of.bids[winner.number] - of.minimum) / 10;
        for (int k = 0; k < companyCount; k++) {
            Company other = companies[k];
            if (other != winner && winner.isInRingWith(other) && isBidCounting(of, other)) {
                winner.chest.payTo(other.chest, tenth);
            }
        }
    }

    /** The company with the highest bid that counts, but for one that is left out; null without one. */
    private Company highestBidder(Lot of, Company leftOut) {
        Company best = null;
        for (int k = 0; k < companyCount; k++) {
            Company by = companies[k];
            if (by != leftOut && isBidCounting(of, by)
                    && (best == null || of.bids[k] > of.bids[best.number])) {
                best = by;
            }
        }
        return best;
    }

    private boolean isBidCounting(Lot of, Company by) {
        int amount = of.bids[by.number];
        return amount > 0 && amount >= of.minimum && canStandFor(by, amount);
    }

    private boolean canStandFor(Company by, int amount) {
        return !by.isBanned && by.land - pledgedOf(by) >= amount / 4;
    }

    private int pledgedOf(Company company) {
        int pledged = 0;
        for (int k = 0; k < lotCount; k++) {
            if (lots[k].isLeasedBy(company)) {
                pledged += lots[k].pledge();
            }
        }
        return pledged;
    }

    private int lotsOf(Company company) {
        int many = 0;
        for (int k = 0; k < lotCount; k++) {
            many += lots[k].isLeasedBy(company) ? 1 : 0;
        }
        return many;
    }

    public int force(int company, int force) throws IndexOutOfBoundsException, IllegalArgumentException {
        Company of = companyAt(company);
        need(isIn(force, 0, MOST_FORCE));
        int before = of.forceNumber;
        of.forceNumber = force;
        return before;
    }

    public int letOn(int lot, int village, int price)
            throws IndexOutOfBoundsException, IllegalArgumentException, IllegalStateException {
        Lot of = lotAt(lot);
        villageAt(village);
        need(isIn(price, 1, 999));
        allow(of.standing == LEASED && contains(of.set, village) && of.letPrices[village] == 0);
        of.letPrices[village] = price;
        return of.lets();
    }

    public int deliver(int company, int grain)
            throws IndexOutOfBoundsException, IllegalArgumentException, IllegalStateException {
        Company of = companyAt(company);
        need(isIn(grain, 1, 500));
        allow(of.chest.coins >= 2 * grain);
        of.chest.payTo(world, 2 * grain);
        of.credit += 3 * grain;
        return of.credit;
    }

    // ---- suits, the governor, clerks, time

    public int sue(int village, int duty) throws IndexOutOfBoundsException, IllegalStateException {
        Village of = villageAt(village);
        Levy levy = of.levies[dutyAt(duty).number];
        Company company = levy.company;
        allow(company != null && levy.year == year() && !levy.isSued);
        levy.isSued = true;
        int over = levy.got - levy.dueByLaw;
        if (judgesFor(over, levy.dueByLaw, bidderJudges) < 4) {
            suitsLost++;
            of.stir(1);
            return SUIT_LOST;
        }
        if (company.gifts >= 50) {
            suitsSetAside++;
            spendGifts(company, 50);
            return SUIT_SET_ASIDE;
        }
        suitsWon++;
        company.chest.payTo(of.chest, 2 * coinsOf(duty, over));
        of.stir(-2);
        return SUIT_WON;
    }

    private static int judgesFor(int over, int dueByLaw, int bidders) {
        int judges = over > 0 ? JUDGES - bidders : 0;
        return over > dueByLaw / 2 ? judges + bidders : judges;
    }

    private void spendGifts(Company company, int amount) {
        company.gifts -= amount;
        evidence++;
    }

    public int bench(int many) throws IllegalArgumentException {
        need(isIn(many, 0, JUDGES));
        int before = bidderJudges;
        bidderJudges = many;
        return before;
    }

    public int gift(int company, int amount)
            throws IndexOutOfBoundsException, IllegalArgumentException, IllegalStateException {
        Company of = companyAt(company);
        need(isIn(amount, 1, 500));
        allow(of.chest.coins >= amount);
        of.gifts += of.chest.payTo(governor, amount);
        return of.gifts;
    }

    public int quarter(int village) throws IndexOutOfBoundsException {
        Village of = villageAt(village);
        int paid = of.chest.payTo(governor, of.houses);
        if (paid < of.houses) {
            of.stir(3);
        }
        return paid;
    }

    public int remit(int lot) throws IndexOutOfBoundsException, IllegalStateException {
        Lot of = lotAt(lot);
        Company company = of.company;
        allow(of.standing == LEASED && company != null && season % SEASONS == WINTER && of.remittedYear != year());
        of.remittedYear = year();
        int remitted = remissionOf(of);
        if (company.gifts >= 20) {
            spendGifts(company, 20);
            remitted += remitted / 2;
        }
        of.remitted += remitted;
        return remitted;
    }

    private int remissionOf(Lot of) {
        int all = 0;
        int bad = 0;
        for (int k = 0; k < villageCount; k++) {
            if (contains(of.set, k)) {
                all++;
                bad += villages[k].isBad() ? 1 : 0;
            }
        }
        return all < 1 ? 0 : of.instalment() * bad / all;
    }

    public int recall() {
        int all = governor.coins;
        boolean isProven = evidence >= 2;
        governor.payTo(isProven ? treasury : world, all);
        evidence = 0;
        for (int k = 0; k < companyCount; k++) {
            companies[k].gifts = 0;
        }
        return isProven ? all : 0;
    }

    public boolean clerks(int duty, boolean is) throws IndexOutOfBoundsException {
        Duty of = dutyAt(duty);
        boolean before = of.isByClerks;
        of.isByClerks = is;
        return before;
    }

    public int pass(int seasons) throws IllegalArgumentException, IllegalStateException {
        need(isIn(seasons, 1, 20));
        allow(season + seasons <= LAST_SEASON);
        for (int k = 0; k < seasons; k++) {
            beginNext();
        }
        return season;
    }

    private void beginNext() {
        season++;
        switch (season % SEASONS) {
            case SPRING:
                beginSpring();
                break;
            case SUMMER:
                bringIn();
                break;
            case AUTUMN:
                collectAll();
                break;
            default:
                break;
        }
        for (int k = 0; k < villageCount; k++) {
            eat(villages[k]);
            beUnquiet(villages[k]);
        }
        if (season % SEASONS == WINTER) {
            sellAll();
        }
    }

    private void beginSpring() {
        sky = (7 * sky + 4) % 11;
        for (int k = 0; k < villageCount; k++) {
            villages[k].isBurnt = false;
            villages[k].crop = 0;
        }
        makeLaw();
        for (int k = 0; k < villageCount; k++) {
            villages[k].debt += villages[k].debt * 3 / 20;
        }
        for (int k = 0; k < lotCount; k++) {
            Lot of = lots[k];
            if (of.standing == LEASED && of.fellDue < of.term) {
                fallDue(of, of.instalment());
            }
        }
    }

    private void makeLaw() {
        boolean isNew = false;
        for (int k = 0; k < DUTIES; k++) {
            Duty of = duties[k];
            if (of.toldRate != NONE) {
                of.rate = of.toldRate;
                of.exempt = of.toldExempt;
                of.toldRate = NONE;
                isNew = true;
            }
        }
        lawNumber += isNew ? 1 : 0;
    }

    private void fallDue(Lot of, int instalment) {
        Company company = of.company;
        if (company == null) {
            return;
        }
        of.fellDue++;
        int byRemission = Math.min(instalment, of.remitted);
        of.remitted -= byRemission;
        int byCredit = Math.min(instalment - byRemission, company.credit);
        company.credit -= byCredit;
        int owed = instalment - byRemission - byCredit;
        int paid = company.chest.payTo(treasury, owed);
        company.paidInstalments += paid;
        if (paid < owed) {
            breakDown(of, company, owed - paid);
        }
    }

    private void breakDown(Lot of, Company company, int lacking) {
        int sold = Math.min(lacking, of.pledge());
        company.land -= sold;
        world.payTo(treasury, sold);
        company.isBanned = true;
        for (int k = 0; k < lotCount; k++) {
            if (lots[k].isLeasedBy(company)) {
                lots[k].standing = OVER;
            }
        }
    }

    private void bringIn() {
        for (int k = 0; k < villageCount; k++) {
            Village of = villages[k];
            of.crop = of.cropWith(sky);
            of.grain += of.crop;
            of.herd = Math.min(of.herd + of.herd / 10, MOST_LAND);
        }
    }

    private void collectAll() {
        for (int k = 0; k < lotCount; k++) {
            if (lots[k].standing == LEASED) {
                collectLot(lots[k]);
            }
        }
        for (int k = 0; k < DUTIES; k++) {
            if (duties[k].isByClerks) {
                collectByClerks(duties[k]);
            }
        }
    }

    private void collectLot(Lot of) {
        Company company = of.company;
        if (company == null) {
            return;
        }
        for (int k = 0; k < villageCount; k++) {
            if (contains(of.set, k) && !villages[k].isInRevolt) {
                collectFrom(villages[k], of, company);
            }
        }
        of.autumnsLeft--;
        if (of.autumnsLeft < 1) {
            of.standing = OVER;
        }
    }

    private void collectFrom(Village from, Lot of, Company company) {
        Duty duty = duties[of.duty];
        int letPrice = of.letPrices[from.number];
        boolean isLet = letPrice > 0;
        int force = isLet ? AGENTS_FORCE : company.forceNumber;
        int asked = askedWith(dueByStone(from, duty), force);
        int paid = asked - from.hiddenOf(asked, force);
        int got = takeFrom(from, of.duty, paid, isLet ? world : company.chest);
        if (force >= 2) {
            got += borrowFor(from, of.duty, paid - got, isLet ? world : company.chest);
        }
        if (isLet) {
            world.payTo(company.chest, letPrice);
        }
        company.brought += isLet ? letPrice : coinsOf(of.duty, got);
        from.stir(force);
        keepLevy(from.levies[of.duty], of, asked, got, dueByLaw(from, duty));
    }

    private static int askedWith(int due, int force) {
        return due + due * force / 8;
    }

    private static int coinsOf(int duty, int got) {
        return duty == TENTH ? 2 * got : got;
    }

    private int takeFrom(Village from, int duty, int amount, Chest to) {
        if (duty != TENTH) {
            return from.chest.payTo(to, amount);
        }
        int grain = Math.min(amount, from.grain);
        from.grain -= grain;
        world.payTo(to, coinsOf(duty, grain));
        return grain;
    }

    /** Of the tenth nothing is borrowed: it is due in grain. */
    private int borrowFor(Village of, int duty, int lacking, Chest to) {
        if (duty == TENTH) {
            return 0;
        }
        of.debt += lacking;
        return world.payTo(to, lacking);
    }

    private void keepLevy(Levy levy, Lot of, int asked, int got, int dueByLaw) {
        levy.company = of.company;
        levy.lotNumber = of.number;
        levy.year = year();
        levy.asked = asked;
        levy.got = got;
        levy.dueByLaw = dueByLaw;
        levy.isSued = false;
    }

    private void collectByClerks(Duty duty) {
        for (int k = 0; k < villageCount; k++) {
            Village from = villages[k];
            if (isForClerks(from, duty) && treasury.coins >= CLERKS_WAGE) {
                treasury.payTo(world, CLERKS_WAGE);
                int asked = dueByLaw(from, duty);
                int paid = asked - from.hiddenOf(asked, CLERKS_FORCE);
                int got = takeFrom(from, duty.number, paid, treasury);
                duty.clerksBrought += coinsOf(duty.number, got);
            }
        }
    }

    private boolean isForClerks(Village of, Duty duty) {
        if (of.isInRevolt) {
            return false;
        }
        for (int k = 0; k < lotCount; k++) {
            if (lots[k].isLeasedFor(duty.number, of.number)) {
                return false;
            }
        }
        return true;
    }

    private void eat(Village of) {
        int eaten = Math.min(of.grain, of.houses);
        of.grain -= eaten;
        int lacking = of.houses - eaten;
        int bought = Math.min(lacking, of.chest.coins / 3);
        of.chest.payTo(world, 3 * bought);
        of.debt += 4 * (lacking - bought);
    }

    private static void beUnquiet(Village of) {
        if (of.debt > 12 * of.houses) {
            flee(of);
        } else {
            of.stir(-1);
        }
        if (of.unrest >= 12) {
            of.isInRevolt = true;
        } else if (of.unrest < 5) {
            of.isInRevolt = false;
        }
    }

    private static void flee(Village of) {
        int going = Math.min(Math.max(of.houses / 5, 1), of.houses - 1);
        of.houses -= going;
        of.fled += going;
        of.debt /= 2;
        of.stir(2);
    }

    private void sellAll() {
        for (int k = 0; k < villageCount; k++) {
            Village of = villages[k];
            int sold = Math.max(of.grain - 6 * of.houses, 0);
            of.grain -= sold;
            world.payTo(of.chest, 2 * sold);
            of.debt -= of.chest.payTo(world, of.debt);
        }
    }

    public int call() {
        refused++;
        return refused;
    }

    // ---- what is asked

    public int ofVillage(int village, int what) throws IndexOutOfBoundsException, IllegalArgumentException {
        Village of = villageAt(village);
        switch (what) {
            case 0:
                return of.houses;
            case 1:
                return of.fields;
            case 2:
                return of.herd;
            case 3:
                return of.soil;
            case 4:
                return of.grain;
            case 5:
                return of.chest.coins;
            case 6:
                return of.debt;
            case 7:
                return of.unrest;
            case 8:
                return of.register;
            case 9:
                return of.crop;
            case 10:
                return of.isInRevolt ? 1 : 0;
            case 11:
                return of.isBurnt ? 1 : 0;
            case 12:
                return of.stoneNumber;
            case 13:
                return of.fled;
            default:
                throw new IllegalArgumentException("there is no such thing to ask");
        }
    }

    public int due(int village, int duty, boolean isLaw) throws IndexOutOfBoundsException {
        Village of = villageAt(village);
        Duty by = dutyAt(duty);
        return isLaw ? dueByLaw(of, by) : dueByStone(of, by);
    }

    public int levy(int village, int duty, int what) throws IndexOutOfBoundsException, IllegalArgumentException {
        Levy of = villageAt(village).levies[dutyAt(duty).number];
        switch (what) {
            case 0:
                return of.year;
            case 1:
                return of.asked;
            case 2:
                return of.got;
            case 3:
                return of.dueByLaw;
            case 4:
                return of.lotNumber;
            case 5:
                return of.isSued ? 1 : 0;
            default:
                throw new IllegalArgumentException("there is no such thing to ask");
        }
    }

    public int law(int duty, int what) throws IndexOutOfBoundsException, IllegalArgumentException {
        Duty of = dutyAt(duty);
        switch (what) {
            case 0:
                return of.rate;
            case 1:
                return of.exempt;
            case 2:
                return of.toldRate;
            case 3:
                return of.isByClerks ? 1 : 0;
            case 4:
                return of.clerksBrought;
            default:
                throw new IllegalArgumentException("there is no such thing to ask");
        }
    }

    public int ofCompany(int company, int what) throws IndexOutOfBoundsException, IllegalArgumentException {
        Company of = companyAt(company);
        switch (what) {
            case 0:
                return of.land;
            case 1:
                return pledgedOf(of);
            case 2:
                return of.chest.coins;
            case 3:
                return of.ringNumber;
            case 4:
                return of.forceNumber;
            case 5:
                return of.isBanned ? 1 : 0;
            case 6:
                return of.partners;
            case 7:
                return of.allShares();
            case 8:
                return of.credit;
            case 9:
                return of.gifts;
            case 10:
                return lotsOf(of);
            case 11:
                return of.brought;
            case 12:
                return of.paidInstalments;
            default:
                throw new IllegalArgumentException("there is no such thing to ask");
        }
    }

    public int partner(int company, int partner, boolean isTold) throws IndexOutOfBoundsException {
        Company of = companyAt(company);
        if (partner < 0 || partner >= of.partners) {
            throw new IndexOutOfBoundsException("there is no such partner");
        }
        return isTold ? of.told[partner] : of.shares[partner];
    }

    public int ofLot(int lot, int what) throws IndexOutOfBoundsException, IllegalArgumentException {
        Lot of = lotAt(lot);
        switch (what) {
            case 0:
                return of.duty;
            case 1:
                return of.set;
            case 2:
                return of.term;
            case 3:
                return of.minimum;
            case 4:
                return of.standing;
            case 5:
                return of.highestBid();
            case 6:
                return of.company == null ? NONE : of.company.number;
            case 7:
                return of.price;
            case 8:
                return of.standing == LEASED ? of.autumnsLeft : 0;
            case 9:
                return of.remitted;
            case 10:
                return of.lets();
            case 11:
                return of.fellDue;
            default:
                throw new IllegalArgumentException("there is no such thing to ask");
        }
    }

    public int land(int what) throws IllegalArgumentException {
        switch (what) {
            case 0:
                return season;
            case 1:
                return year();
            case 2:
                return sky;
            case 3:
                return villageCount;
            case 4:
                return companyCount;
            case 5:
                return lotCount;
            case 6:
                return treasury.coins;
            case 7:
                return governor.coins;
            case 8:
                return world.coins;
            case 9:
                return evidence;
            case 10:
                return suitsWon;
            case 11:
                return suitsLost;
            case 12:
                return suitsSetAside;
            case 13:
                return allHouses();
            case 14:
                return lawNumber;
            case 15:
                return oldStones();
            case 16:
                return refused;
            default:
                throw new IllegalArgumentException("there is no such thing to ask");
        }
    }

    private int year() {
        return season / SEASONS;
    }

    private int allHouses() {
        int all = 0;
        for (int k = 0; k < villageCount; k++) {
            all += villages[k].houses;
        }
        return all;
    }

    private int oldStones() {
        int many = 0;
        for (int k = 0; k < villageCount; k++) {
            many += villages[k].stoneNumber != lawNumber ? 1 : 0;
        }
        return many;
    }

    public String tell(int village) throws IndexOutOfBoundsException {
        Village of = villageAt(village);
        StringBuilder line = new StringBuilder();
        line.append(of.number).append(": ").append(of.houses).append(" houses");
        if (of.isInRevolt) {
            line.append(", revolt");
        }
        if (of.isBurnt) {
            line.append(", burnt");
        }
        if (of.debt > 0) {
            line.append(", owes ").append(of.debt);
        }
        return line.toString();
    }

    public double gain(int company) throws IndexOutOfBoundsException {
        Company of = companyAt(company);
        return of.paidInstalments == 0 ? 0.0 : (double) of.brought / of.paidInstalments;
    }

    // ---- what would be (nothing is changed)

    public int wouldBring(int lot, int force) throws IndexOutOfBoundsException, IllegalArgumentException {
        Lot of = lotAt(lot);
        need(isIn(force, 0, MOST_FORCE));
        return coinsWith(of, force);
    }

    private int coinsWith(Lot of, int force) {
        int coins = 0;
        for (int k = 0; k < villageCount; k++) {
            Village from = villages[k];
            if (contains(of.set, k) && !from.isInRevolt) {
                int asked = askedWith(dueByStone(from, duties[of.duty]), force);
                coins += coinsLikely(from, of.duty, asked - from.hiddenOf(asked, force), force >= 2);
            }
        }
        return coins;
    }

    private static int coinsLikely(Village from, int duty, int paid, boolean isBorrowing) {
        if (duty == TENTH) {
            return coinsOf(duty, Math.min(paid, from.grain));
        }
        return isBorrowing ? paid : Math.min(paid, from.chest.coins);
    }

    public int bestForce(int lot) throws IndexOutOfBoundsException {
        Lot of = lotAt(lot);
        int best = 0;
        for (int force = 1; force <= MOST_FORCE; force++) {
            if (coinsWith(of, force) > coinsWith(of, best)) {
                best = force;
            }
        }
        return best;
    }

    public int votes(int village, int duty, int got, int bidders)
            throws IndexOutOfBoundsException, IllegalArgumentException {
        Village of = villageAt(village);
        Duty by = dutyAt(duty);
        need(isIn(got, 0, 9999) && isIn(bidders, 0, JUDGES));
        int dueNow = dueByLaw(of, by);
        return judgesFor(got - dueNow, dueNow, bidders);
    }

    public int harvest(int village, int sky) throws IndexOutOfBoundsException, IllegalArgumentException {
        Village of = villageAt(village);
        need(isIn(sky, 0, 10));
        return of.cropWith(sky);
    }

    public int direct(int duty) throws IndexOutOfBoundsException {
        Duty by = dutyAt(duty);
        int coins = 0;
        for (int k = 0; k < villageCount; k++) {
            Village from = villages[k];
            if (isForClerks(from, by)) {
                int asked = dueByLaw(from, by);
                coins += coinsLikely(from, duty, asked - from.hiddenOf(asked, CLERKS_FORCE), false) - CLERKS_WAGE;
            }
        }
        return coins;
    }

    public int wouldWin(int lot) throws IndexOutOfBoundsException, IllegalStateException {
        Lot of = lotAt(lot);
        allow(of.standing == OFFERED);
        Company winner = highestBidder(of, null);
        return winner == null ? NONE : winner.number;
    }

    public boolean isSound() {
        return areChestsSound() && arePledgesSound() && areLotsSound();
    }

    private boolean areChestsSound() {
        boolean isNoneBelow = treasury.coins >= 0 && governor.coins >= 0;
        long all = (long) treasury.coins + governor.coins + world.coins;
        for (int k = 0; k < villageCount; k++) {
            all += villages[k].chest.coins;
            isNoneBelow = isNoneBelow && villages[k].chest.coins >= 0;
        }
        for (int k = 0; k < companyCount; k++) {
            all += companies[k].chest.coins;
            isNoneBelow = isNoneBelow && companies[k].chest.coins >= 0;
        }
        return isNoneBelow && all == 0;
    }

    private boolean arePledgesSound() {
        for (int k = 0; k < companyCount; k++) {
            if (pledgedOf(companies[k]) > companies[k].land) {
                return false;
            }
        }
        return true;
    }

    private boolean areLotsSound() {
        for (int k = 0; k < lotCount; k++) {
            Lot of = lots[k];
            if (of.standing == LEASED && (of.company == null || of.company.isBanned)) {
                return false;
            }
            for (int j = 0; j < k; j++) {
                if (of.isOpen() && lots[j].sharesWith(of.duty, of.set)) {
                    return false;
                }
            }
        }
        return true;
    }

    public long digest() {
        long d = 58260;
        for (int what = 0; what <= 16; what++) {
            d = d * 31 + land(what);
        }
        for (int k = 0; k < DUTIES; k++) {
            for (int what = 0; what <= 4; what++) {
                d = d * 31 + law(k, what);
            }
            d = d * 31 + direct(k);
        }
        for (int k = 0; k < villageCount; k++) {
            d = withVillage(d, k);
        }
        for (int k = 0; k < companyCount; k++) {
            d = withCompany(d, k);
        }
        for (int k = 0; k < lotCount; k++) {
            for (int what = 0; what <= 11; what++) {
                d = d * 31 + ofLot(k, what);
            }
            d = d * 31 + wouldBring(k, 1);
            d = d * 31 + bestForce(k);
        }
        return d * 31 + (isSound() ? 1 : 0);
    }

    private long withVillage(long before, int village) {
        long d = before;
        for (int what = 0; what <= 13; what++) {
            d = d * 31 + ofVillage(village, what);
        }
        for (int k = 0; k < DUTIES; k++) {
            d = d * 31 + due(village, k, false);
            d = d * 31 + due(village, k, true);
            for (int what = 0; what <= 5; what++) {
                d = d * 31 + levy(village, k, what);
            }
        }
        return d;
    }

    private long withCompany(long before, int company) {
        long d = before;
        for (int what = 0; what <= 12; what++) {
            d = d * 31 + ofCompany(company, what);
        }
        d = d * 31 + (long) (64 * gain(company));
        for (int k = 0; k < companies[company].partners; k++) {
            d = d * 31 + partner(company, k, false);
            d = d * 31 + partner(company, k, true);
        }
        return d;
    }

    // ---- what is tested

    private Village villageAt(int village) {
        if (village < 0 || village >= villageCount) {
            throw new IndexOutOfBoundsException("there is no such village");
        }
        return villages[village];
    }

    private Company companyAt(int company) {
        if (company < 0 || company >= companyCount) {
            throw new IndexOutOfBoundsException("there is no such company");
        }
        return companies[company];
    }

    private Lot lotAt(int lot) {
        if (lot < 0 || lot >= lotCount) {
            throw new IndexOutOfBoundsException("there is no such lot");
        }
        return lots[lot];
    }

    private Duty dutyAt(int duty) {
        if (duty < 0 || duty >= DUTIES) {
            throw new IndexOutOfBoundsException("there is no such duty");
        }
        return duties[duty];
    }

    private static void need(boolean isRight) {
        if (!isRight) {
            throw new IllegalArgumentException("a number is out of its bounds");
        }
    }

    private static void allow(boolean isAllowed) {
        if (!isAllowed) {
            throw new IllegalStateException("this cannot be done as all is now");
        }
    }

    /** Whether a set that is not below 0 has villages that there are alone. */
    private boolean areThere(int set) {
        return set >> villageCount == 0;
    }

    private static boolean isIn(int number, int least, int most) {
        return number >= least && number <= most;
    }

    private static boolean contains(int set, int number) {
        return (set >> number & 1) == 1;
    }

    private static int hold(int number, int least, int most) {
        if (number < least) {
            return least;
        }
        return number > most ? most : number;
    }
}
