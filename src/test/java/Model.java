/**
 * The document once more, sentence by sentence, in plain rows of numbers: what the class answers is compared with
 * what this answers. It is written from the document, not from the class.
 */
final class Model {
    private static final int WORLD = 0;
    private static final int TREASURY = 1;
    private static final int GOVERNOR = 2;
    private static final int OF_VILLAGES = 3;
    private static final int OF_COMPANIES = 11;

    private final int[] chests = new int[15];
    private int villages;
    private int companies;
    private int lots;
    private int season;
    private int sky = 5;
    private int lawNumber;
    private int bidders = 3;
    private int evidence;
    private int won;
    private int lost;
    private int setAside;
    private int refused;

    private final int[] rates = {100, 10, 2};
    private final int[] exempts = new int[3];
    private final int[] toldRates = {-1, -1, -1};
    private final int[] toldExempts = new int[3];
    private final boolean[] byClerks = new boolean[3];
    private final int[] clerksBrought = new int[3];

    private final int[] houses = new int[8];
    private final int[] fields = new int[8];
    private final int[] herds = new int[8];
    private final int[] soils = new int[8];
    private final int[] grain = new int[8];
    private final int[] debts = new int[8];
    private final int[] unrest = new int[8];
    private final int[] registers = new int[8];
    private final int[] yields = new int[8];
    private final int[] fled = new int[8];
    private final boolean[] revolts = new boolean[8];
    private final boolean[] burnt = new boolean[8];
    private final int[] stoneNumbers = new int[8];
    private final int[][] stoneRates = new int[8][3];
    private final int[][] stoneExempts = new int[8][3];
    /** Of each village and duty: what levy() is asked. */
    private final int[][][] levies = new int[8][3][6];

    private final int[] lands = new int[4];
    private final int[] rings = new int[4];
    private final int[] forces = new int[4];
    private final boolean[] banned = new boolean[4];
    private final int[] partners = new int[4];
    private final int[][] shares = new int[4][5];
    private final int[][] told = new int[4][5];
    private final int[] credits = new int[4];
    private final int[] gifts = new int[4];
    private final int[] brought = new int[4];
    private final int[] paidInstalments = new int[4];

    private final int[] lotDuties = new int[8];
    private final int[] sets = new int[8];
    private final int[] terms = new int[8];
    private final int[] minimums = new int[8];
    /** 0 OFFERED, 1 LEASED, 2 OVER, 3 FAILED. */
    private final int[] stands = new int[8];
    private final int[][] bids = new int[8][4];
    private final int[] holders = new int[8];
    private final int[] prices = new int[8];
    private final int[] autumns = new int[8];
    private final int[] remitted = new int[8];
    private final int[] askedIn = new int[8];
    private final int[][] agents = new int[8][8];
    private final int[] fell = new int[8];

    // ---- what is thrown

    private static void index(boolean is) {
        if (!is) {
            throw new IndexOutOfBoundsException();
        }
    }

    private static void argument(boolean is) {
        if (!is) {
            throw new IllegalArgumentException();
        }
    }

    private static void state(boolean is) {
        if (!is) {
            throw new IllegalStateException();
        }
    }

    private void village(int village) {
        index(0 <= village && village < villages);
    }

    private void company(int company) {
        index(0 <= company && company < companies);
    }

    private void lot(int lot) {
        index(0 <= lot && lot < lots);
    }

    private static void duty(int duty) {
        index(0 <= duty && duty <= 2);
    }

    // ---- sections 0 to 3

    private int pay(int from, int to, int amount) {
        int paid = amount;
        if (from != WORLD && paid > chests[from]) {
            paid = chests[from];
        }
        chests[from] -= paid;
        chests[to] += paid;
        return paid;
    }

    private static boolean has(int set, int number) {
        return (set / (1 << number)) % 2 == 1;
    }

    private static int hold(int number, int a, int b) {
        return number < a ? a : Math.min(number, b);
    }

    private void restless(int village, int more) {
        unrest[village] = hold(unrest[village] + more, 0, 20);
    }

    void beginSeason() {
        season++;
        int kind = season % 4;
        if (kind == 0) {
            spring();
        }
        if (kind == 1) {
            for (int k = 0; k < villages; k++) {
                yields[k] = harvest(k, sky);
                grain[k] += yields[k];
                herds[k] = hold(herds[k] + herds[k] / 10, 0, 600);
            }
        }
        if (kind == 2) {
            autumn();
        }
        for (int k = 0; k < villages; k++) {
            live(k);
        }
        if (kind == 3) {
            for (int k = 0; k < villages; k++) {
                sell(k);
            }
        }
    }

    private void spring() {
        sky = (7 * sky + 4) % 11;
        boolean isEdict = false;
        for (int k = 0; k < villages; k++) {
            burnt[k] = false;
            yields[k] = 0;
        }
        for (int k = 0; k < 3; k++) {
            if (toldRates[k] >= 0) {
                isEdict = true;
                rates[k] = toldRates[k];
                exempts[k] = toldExempts[k];
                toldRates[k] = -1;
            }
        }
        if (isEdict) {
            lawNumber++;
        }
        for (int k = 0; k < villages; k++) {
            debts[k] += debts[k] * 3 / 20;
        }
        for (int k = 0; k < lots; k++) {
            if (stands[k] == 1 && fell[k] < terms[k]) {
                instalment(k, prices[k] / terms[k]);
            }
        }
    }

    private void live(int k) {
        for (int eaten = 0; eaten < houses[k]; eaten++) {
            if (grain[k] > 0) {
                grain[k]--;
            } else if (chests[OF_VILLAGES + k] >= 3) {
                pay(OF_VILLAGES + k, WORLD, 3);
            } else {
                debts[k] += 4;
            }
        }
        if (debts[k] > 12 * houses[k]) {
            int going = houses[k] < 5 ? 1 : houses[k] / 5;
            if (houses[k] == 1) {
                going = 0;
            }
            houses[k] -= going;
            fled[k] += going;
            debts[k] = debts[k] / 2;
            restless(k, 2);
        } else {
            restless(k, -1);
        }
        revolts[k] = revolts[k] ? unrest[k] >= 5 : unrest[k] >= 12;
    }

    private void sell(int k) {
        while (grain[k] > 6 * houses[k]) {
            grain[k]--;
            pay(WORLD, OF_VILLAGES + k, 2);
        }
        debts[k] -= pay(OF_VILLAGES + k, WORLD, debts[k]);
    }

    private int rated(int village, int duty, int rate) {
        if (duty == 0) {
            return yields[village] * rate / 1000;
        }
        return duty == 1 ? herds[village] * rate / 100 : houses[village] * rate;
    }

    int due(int village, int duty, boolean isLaw) {
        village(village);
        duty(duty);
        boolean isExempt = isLaw ? has(exempts[duty], village) : stoneExempts[village][duty] == 1;
        return isExempt ? 0 : rated(village, duty, isLaw ? rates[duty] : stoneRates[village][duty]);
    }

    private void stone(int village) {
        for (int k = 0; k < 3; k++) {
            stoneRates[village][k] = rates[k];
            stoneExempts[village][k] = has(exempts[k], village) ? 1 : 0;
        }
        stoneNumbers[village] = lawNumber;
    }

    // ---- sections 5, 6 and 9: collecting and instalments

    private static int hidden(int asked, int unrest, int force) {
        return asked * hold(6 + unrest / 4 - 2 * force, 0, 12) / 16;
    }

    private void autumn() {
        for (int k = 0; k < lots; k++) {
            if (stands[k] == 1) {
                for (int v = 0; v < villages; v++) {
                    if (has(sets[k], v) && !revolts[v]) {
                        collect(k, v);
                    }
                }
                autumns[k]--;
                if (autumns[k] == 0) {
                    stands[k] = 2;
                }
            }
        }
        for (int k = 0; k < 3; k++) {
            for (int v = 0; v < villages && byClerks[k]; v++) {
                if (isByClerks(v, k) && chests[TREASURY] >= 4) {
                    pay(TREASURY, WORLD, 4);
                    int asked = due(v, k, true);
                    int got = take(v, k, asked - hidden(asked, unrest[v], 1), false, TREASURY);
                    clerksBrought[k] += k == 0 ? 2 * got : got;
                }
            }
        }
    }

    private boolean isByClerks(int village, int duty) {
        boolean isLeased = false;
        for (int k = 0; k < lots; k++) {
            isLeased = isLeased || stands[k] == 1 && lotDuties[k] == duty && has(sets[k], village);
        }
        return !isLeased && !revolts[village];
    }

    private int take(int village, int duty, int paid, boolean isBorrowing, int to) {
        if (duty == 0) {
            int got = Math.min(paid, grain[village]);
            grain[village] -= got;
            pay(WORLD, to, 2 * got);
            return got;
        }
        int got = pay(OF_VILLAGES + village, to, paid);
        if (isBorrowing) {
            debts[village] += paid - got;
            pay(WORLD, to, paid - got);
            got = paid;
        }
        return got;
    }

    private void collect(int lot, int village) {
        int duty = lotDuties[lot];
        int holder = holders[lot];
        int price = agents[lot][village];
        int force = price > 0 ? 3 : forces[holder];
        int asked = due(village, duty, false) + due(village, duty, false) * force / 8;
        int paid = asked - hidden(asked, unrest[village], force);
        int got = take(village, duty, paid, force >= 2, price > 0 ? WORLD : OF_COMPANIES + holder);
        if (price > 0) {
            brought[holder] += pay(WORLD, OF_COMPANIES + holder, price);
        } else {
            brought[holder] += duty == 0 ? 2 * got : got;
        }
        restless(village, force);
        levies[village][duty] = new int[] {season / 4, asked, got, due(village, duty, true), lot, 0};
    }

    private int pledged(int company) {
        int all = 0;
        for (int k = 0; k < lots; k++) {
            all += stands[k] == 1 && holders[k] == company ? prices[k] / 4 : 0;
        }
        return all;
    }

    private void instalment(int lot, int amount) {
        int holder = holders[lot];
        fell[lot]++;
        int left = amount;
        while (left > 0 && remitted[lot] > 0) {
            left--;
            remitted[lot]--;
        }
        while (left > 0 && credits[holder] > 0) {
            left--;
            credits[holder]--;
        }
        int paid = pay(OF_COMPANIES + holder, TREASURY, left);
        paidInstalments[holder] += paid;
        int lacking = left - paid;
        if (lacking == 0) {
            return;
        }
        int sold = Math.min(lacking, prices[lot] / 4);
        lands[holder] -= sold;
        pay(WORLD, TREASURY, sold);
        banned[holder] = true;
        for (int k = 0; k < lots; k++) {
            if (stands[k] == 1 && holders[k] == holder) {
                stands[k] = 2;
            }
        }
    }

    // ---- promises 2 to 7

    int village(int of, int withFields, int herd, int soil) {
        argument(of >= 1 && of <= 90 && withFields >= 0 && withFields <= 600 && herd >= 0 && herd <= 600);
        argument(soil >= 1 && soil <= 9);
        state(villages < 8);
        int k = villages++;
        houses[k] = of;
        fields[k] = withFields;
        registers[k] = withFields;
        herds[k] = herd;
        soils[k] = soil;
        grain[k] = 4 * of;
        stone(k);
        for (int duty = 0; duty < 3; duty++) {
            levies[k][duty] = new int[] {-1, -1, -1, -1, -1, 0};
        }
        return k;
    }

    int clear(int village, int more) {
        village(village);
        argument(more >= 1 && more <= 100);
        fields[village] = Math.min(600, fields[village] + more);
        return fields[village];
    }

    int survey(int village) {
        village(village);
        int before = registers[village];
        registers[village] = fields[village];
        pay(TREASURY, WORLD, 2 + fields[village] / 50);
        return before;
    }

    int war(int set) {
        argument(set >= 0 && set < 1 << villages);
        int many = 0;
        for (int k = 0; k < villages; k++) {
            burnt[k] = burnt[k] || has(set, k);
            many += burnt[k] ? 1 : 0;
        }
        return many;
    }

    int edict(int duty, int rate, int exempt) {
        duty(duty);
        argument(rate >= 0 && rate <= new int[] {300, 60, 9}[duty] && exempt >= 0 && exempt <= 255);
        toldRates[duty] = rate;
        toldExempts[duty] = exempt;
        return lawNumber + 1;
    }

    int cut(int village) {
        village(village);
        int before = stoneNumbers[village];
        stone(village);
        pay(TREASURY, WORLD, 3);
        return before;
    }

    // ---- promises 8 to 17

    int company(int land, int ring) {
        argument(land >= 0 && land <= 2000 && ring >= 0 && ring <= 3);
        state(companies < 4);
        lands[companies] = land;
        rings[companies] = ring;
        return companies++;
    }

    int join(int company, int share) {
        company(company);
        argument(share >= 1 && share <= 99);
        state(partners[company] < 5);
        shares[company][partners[company]] = share;
        pay(WORLD, OF_COMPANIES + company, 4 * share);
        return partners[company]++;
    }

    private int allShares(int company) {
        int all = 0;
        for (int share : shares[company]) {
            all += share;
        }
        return all;
    }

    int shareOut(int company, int amount) {
        company(company);
        argument(amount >= 1);
        state(partners[company] > 0 && chests[OF_COMPANIES + company] >= amount);
        int all = allShares(company);
        int left = pay(OF_COMPANIES + company, WORLD, amount);
        boolean[] isServed = new boolean[5];
        for (int k = 0; k < partners[company]; k++) {
            int part = amount * shares[company][k] / all;
            told[company][k] += part;
            left -= part;
        }
        for (; left > 0; left--) {
            int best = -1;
            for (int k = 0; k < partners[company]; k++) {
                if (!isServed[k] && (best < 0 || amount * shares[company][k] % all > amount * shares[company][best] % all)) {
                    best = k;
                }
            }
            isServed[best] = true;
            told[company][best]++;
        }
        return chests[OF_COMPANIES + company];
    }

    int ring(int company, int ring) {
        company(company);
        argument(ring >= 0 && ring <= 3);
        int before = rings[company];
        rings[company] = ring;
        return before;
    }

    int lot(int duty, int set, int term, int minimum) {
        duty(duty);
        argument(set >= 1 && set < 1 << villages && term >= 1 && term <= 5 && minimum >= 0 && minimum <= 5000);
        boolean isFree = lots < 8;
        for (int k = 0; k < lots; k++) {
            isFree = isFree && (stands[k] > 1 || lotDuties[k] != duty || (sets[k] & set) == 0);
        }
        state(isFree);
        lotDuties[lots] = duty;
        sets[lots] = set;
        terms[lots] = term;
        minimums[lots] = minimum;
        holders[lots] = -1;
        askedIn[lots] = -1;
        return lots++;
    }

    private boolean hasLand(int company, int amount) {
        return lands[company] - pledged(company) >= amount / 4;
    }

    int bid(int company, int lot, int amount) {
        company(company);
        lot(lot);
        argument(amount >= 1 && amount <= 9000);
        state(stands[lot] == 0 && !banned[company] && hasLand(company, amount));
        bids[lot][company] = amount;
        return highest(lot);
    }

    private int highest(int lot) {
        int highest = 0;
        for (int bid : bids[lot]) {
            highest = Math.max(highest, bid);
        }
        return highest;
    }

    /** The companies whose bids count, the highest first, of several the smallest number first. */
    private int[] ranked(int lot) {
        int[] ranked = new int[4];
        int many = 0;
        for (int k = 0; k < companies; k++) {
            int bid = bids[lot][k];
            if (bid > 0 && bid >= minimums[lot] && !banned[k] && hasLand(k, bid)) {
                int place = many++;
                for (; place > 0 && bids[lot][ranked[place - 1]] < bid; place--) {
                    ranked[place] = ranked[place - 1];
                }
                ranked[place] = k;
            }
        }
        return java.util.Arrays.copyOf(ranked, many);
    }

    int wouldWin(int lot) {
        lot(lot);
        state(stands[lot] == 0);
        int[] ranked = ranked(lot);
        return ranked.length == 0 ? -1 : ranked[0];
    }

    int award(int lot) {
        int winner = wouldWin(lot);
        if (winner < 0) {
            stands[lot] = 3;
            return -1;
        }
        int[] ranked = ranked(lot);
        int bid = bids[lot][winner];
        prices[lot] = bid;
        if (ranked.length > 1 && rings[winner] > 0 && rings[ranked[1]] == rings[winner]) {
            prices[lot] = minimums[lot];
            java.util.Arrays.sort(ranked);
            for (int other : ranked) {
                if (other != winner && rings[other] == rings[winner]) {
                    pay(OF_COMPANIES + winner, OF_COMPANIES + other, (bid - minimums[lot]) / 10);
                }
            }
        }
        holders[lot] = winner;
        stands[lot] = 1;
        autumns[lot] = terms[lot];
        instalment(lot, prices[lot] - prices[lot] / terms[lot] * (terms[lot] - 1));
        return winner;
    }

    int force(int company, int force) {
        company(company);
        argument(force >= 0 && force <= 3);
        int before = forces[company];
        forces[company] = force;
        return before;
    }

    int letOn(int lot, int village, int price) {
        lot(lot);
        village(village);
        argument(price >= 1 && price <= 999);
        state(stands[lot] == 1 && has(sets[lot], village) && agents[lot][village] == 0);
        agents[lot][village] = price;
        return letOnOf(lot);
    }

    private int letOnOf(int lot) {
        int many = 0;
        for (int price : agents[lot]) {
            many += price > 0 ? 1 : 0;
        }
        return many;
    }

    int deliver(int company, int amount) {
        company(company);
        argument(amount >= 1 && amount <= 500);
        state(chests[OF_COMPANIES + company] >= 2 * amount);
        pay(OF_COMPANIES + company, WORLD, 2 * amount);
        credits[company] += 3 * amount;
        return credits[company];
    }

    // ---- promises 18 to 26

    private static int votesOf(int got, int due, int ofBidders) {
        int many = 0;
        for (int judge = 0; judge < 7; judge++) {
            int bound = judge < ofBidders ? due / 2 : 0;
            many += got - due > 0 && got - due > bound ? 1 : 0;
        }
        return many;
    }

    int sue(int village, int duty) {
        village(village);
        duty(duty);
        int[] levy = levies[village][duty];
        state(levy[0] == season / 4 && levy[5] == 0);
        levy[5] = 1;
        if (votesOf(levy[2], levy[3], bidders) < 4) {
            lost++;
            restless(village, 1);
            return 0;
        }
        int holder = holders[levy[4]];
        if (gifts[holder] >= 50) {
            gifts[holder] -= 50;
            evidence++;
            setAside++;
            return 2;
        }
        won++;
        pay(OF_COMPANIES + holder, OF_VILLAGES + village, (levy[2] - levy[3]) * (duty == 0 ? 4 : 2));
        restless(village, -2);
        return 1;
    }

    int bench(int many) {
        argument(many >= 0 && many <= 7);
        int before = bidders;
        bidders = many;
        return before;
    }

    int gift(int company, int amount) {
        company(company);
        argument(amount >= 1 && amount <= 500);
        state(chests[OF_COMPANIES + company] >= amount);
        gifts[company] += pay(OF_COMPANIES + company, GOVERNOR, amount);
        return gifts[company];
    }

    int quarter(int village) {
        village(village);
        int paid = pay(OF_VILLAGES + village, GOVERNOR, houses[village]);
        restless(village, paid == houses[village] ? 0 : 3);
        return paid;
    }

    int remit(int lot) {
        lot(lot);
        state(stands[lot] == 1 && season % 4 == 3 && askedIn[lot] != season / 4);
        askedIn[lot] = season / 4;
        int bad = 0;
        int all = 0;
        for (int k = 0; k < villages; k++) {
            all += has(sets[lot], k) ? 1 : 0;
            bad += has(sets[lot], k) && yields[k] < registers[k] * soils[k] * 7 / 120 ? 1 : 0;
        }
        int more = prices[lot] / terms[lot] * bad / all;
        if (gifts[holders[lot]] >= 20) {
            gifts[holders[lot]] -= 20;
            evidence++;
            more += more / 2;
        }
        remitted[lot] += more;
        return more;
    }

    int recall() {
        int to = evidence >= 2 ? TREASURY : WORLD;
        int all = pay(GOVERNOR, to, chests[GOVERNOR]);
        evidence = 0;
        java.util.Arrays.fill(gifts, 0);
        return to == TREASURY ? all : 0;
    }

    boolean clerks(int duty, boolean is) {
        duty(duty);
        boolean before = byClerks[duty];
        byClerks[duty] = is;
        return before;
    }

    int pass(int seasons) {
        argument(seasons >= 1 && seasons <= 20);
        state(season + seasons <= 160);
        for (int k = 0; k < seasons; k++) {
            beginSeason();
        }
        return season;
    }

    int call() {
        return ++refused;
    }

    // ---- promises 27 to 44

    private static int asked(int[] answers, int what) {
        argument(what >= 0 && what < answers.length);
        return answers[what];
    }

    int ofVillage(int k, int what) {
        village(k);
        return asked(new int[] {houses[k], fields[k], herds[k], soils[k], grain[k], chests[OF_VILLAGES + k], debts[k],
            unrest[k], registers[k], yields[k], revolts[k] ? 1 : 0, burnt[k] ? 1 : 0, stoneNumbers[k], fled[k]}, what);
    }

    int levy(int village, int duty, int what) {
        village(village);
        duty(duty);
        return asked(levies[village][duty], what);
    }

    int law(int k, int what) {
        duty(k);
        return asked(new int[] {rates[k], exempts[k], toldRates[k], byClerks[k] ? 1 : 0, clerksBrought[k]}, what);
    }

    int ofCompany(int k, int what) {
        company(k);
        int leased = 0;
        for (int lot = 0; lot < lots; lot++) {
            leased += stands[lot] == 1 && holders[lot] == k ? 1 : 0;
        }
        return asked(new int[] {lands[k], pledged(k), chests[OF_COMPANIES + k], rings[k], forces[k], banned[k] ? 1 : 0,
            partners[k], allShares(k), credits[k], gifts[k], leased, brought[k], paidInstalments[k]}, what);
    }

    int partner(int company, int partner, boolean isTold) {
        company(company);
        index(partner >= 0 && partner < partners[company]);
        return isTold ? told[company][partner] : shares[company][partner];
    }

    int ofLot(int k, int what) {
        lot(k);
        return asked(new int[] {lotDuties[k], sets[k], terms[k], minimums[k], stands[k], highest(k), holders[k], prices[k],
            stands[k] == 1 ? autumns[k] : 0, remitted[k], letOnOf(k), fell[k]}, what);
    }

    int land(int what) {
        int all = 0;
        int old = 0;
        for (int k = 0; k < villages; k++) {
            all += houses[k];
            old += stoneNumbers[k] == lawNumber ? 0 : 1;
        }
        return asked(new int[] {season, season / 4, sky, villages, companies, lots, chests[TREASURY], chests[GOVERNOR],
            chests[WORLD], evidence, won, lost, setAside, all, lawNumber, old, refused}, what);
    }

    String tell(int k) {
        village(k);
        return k + ": " + houses[k] + " houses" + (revolts[k] ? ", revolt" : "") + (burnt[k] ? ", burnt" : "")
            + (debts[k] > 0 ? ", owes " + debts[k] : "");
    }

    double gain(int company) {
        company(company);
        return paidInstalments[company] == 0 ? 0.0 : (double) brought[company] / (double) paidInstalments[company];
    }

    private int coins(int village, int duty, int paid, boolean isBorrowing) {
        if (duty == 0) {
            return 2 * Math.min(paid, grain[village]);
        }
        return isBorrowing ? paid : Math.min(paid, chests[OF_VILLAGES + village]);
    }

    int wouldBring(int lot, int force) {
        lot(lot);
        argument(force >= 0 && force <= 3);
        int all = 0;
        for (int k = 0; k < villages; k++) {
            if (has(sets[lot], k) && !revolts[k]) {
                int due = due(k, lotDuties[lot], false);
                int asked = due + due * force / 8;
                all += coins(k, lotDuties[lot], asked - hidden(asked, unrest[k], force), force >= 2);
            }
        }
        return all;
    }

    int bestForce(int lot) {
        lot(lot);
        int best = 3;
        for (int force = 2; force >= 0; force--) {
            best = wouldBring(lot, force) >= wouldBring(lot, best) ? force : best;
        }
        return best;
    }

    int votes(int village, int duty, int got, int ofBidders) {
        village(village);
        duty(duty);
        argument(got >= 0 && got <= 9999 && ofBidders >= 0 && ofBidders <= 7);
        return votesOf(got, due(village, duty, true), ofBidders);
    }

    int harvest(int village, int withSky) {
        village(village);
        argument(withSky >= 0 && withSky <= 10);
        return fields[village] * soils[village] * (withSky + 2) / 60 / (burnt[village] ? 2 : 1);
    }

    int direct(int duty) {
        duty(duty);
        int all = 0;
        for (int k = 0; k < villages; k++) {
            if (isByClerks(k, duty)) {
                int asked = due(k, duty, true);
                all += coins(k, duty, asked - hidden(asked, unrest[k], 1), false) - 4;
            }
        }
        return all;
    }

    boolean isSound() {
        int all = 0;
        boolean is = true;
        for (int k = 0; k < chests.length; k++) {
            all += chests[k];
            is = is && (k == WORLD || chests[k] >= 0);
        }
        for (int k = 0; k < companies; k++) {
            is = is && pledged(k) <= lands[k];
        }
        for (int k = 0; k < lots; k++) {
            is = is && (stands[k] != 1 || holders[k] >= 0 && !banned[holders[k]]);
            for (int other = 0; other < lots; other++) {
                is = is && (other == k || stands[k] > 1 || stands[other] > 1 || lotDuties[k] != lotDuties[other]
                    || (sets[k] & sets[other]) == 0);
            }
        }
        return is && all == 0;
    }

    private long sum;

    private void mix(long v) {
        sum = sum * 31 + v;
    }

    long digest() {
        sum = 58260;
        for (int what = 0; what < 17; what++) {
            mix(land(what));
        }
        for (int k = 0; k < 3; k++) {
            for (int what = 0; what < 5; what++) {
                mix(law(k, what));
            }
            mix(direct(k));
        }
        for (int k = 0; k < villages; k++) {
            mixVillage(k);
        }
        for (int k = 0; k < companies; k++) {
            for (int what = 0; what < 13; what++) {
                mix(ofCompany(k, what));
            }
            mix((long) (64 * gain(k)));
            for (int one = 0; one < partners[k]; one++) {
                mix(shares[k][one]);
                mix(told[k][one]);
            }
        }
        for (int k = 0; k < lots; k++) {
            for (int what = 0; what < 12; what++) {
                mix(ofLot(k, what));
            }
            mix(wouldBring(k, 1));
            mix(bestForce(k));
        }
        mix(isSound() ? 1 : 0);
        return sum;
    }

    private void mixVillage(int village) {
        for (int what = 0; what < 14; what++) {
            mix(ofVillage(village, what));
        }
        for (int k = 0; k < 3; k++) {
            mix(due(village, k, false));
            mix(due(village, k, true));
            for (int what = 0; what < 6; what++) {
                mix(levies[village][k][what]);
            }
        }
    }
}
