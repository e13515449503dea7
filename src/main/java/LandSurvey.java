import java.util.Arrays;
import java.util.NoSuchElementException;

/**
 * A land of cells of which little is seen: what is told of it by days, the grounds that doubt the
 * fewest sights, and what may lie under each cell by all grounds that are kept.
 */
public final class LandSurvey {
    public static final int NONE = -1;

    private static final int COLUMNS = 12;
    private static final int LINES = 8;
    private static final int CELLS = 96;
    private static final int LEFTWARDS = 0;
    private static final int RIGHTWARDS = 1;
    private static final int UPWARDS = 2;
    private static final int DOWNWARDS = 3;
    private static final int WAYS = 4;

    private static final int LAST_DAY = 9999;
    private static final int MOST_DAYS_AT_ONCE = 1000;
    private static final int MOST_HEIGHT = 999;
    private static final int MOST_OWNERS = 4;
    private static final int MOST_HANDS = 6;
    private static final int MOST_SIGHTS = 40;
    private static final int MOST_DOUBTED = 3;
    private static final int MOST_BREAKS = 4;
    private static final int MOST_SHEETS = 10;
    private static final int MOST_PLANNED = 8;
    private static final int MOST_DEPTH_ASKED = 2000;
    private static final int MOST_RIVALRY = 999;

    private static final int SEEN = 0;
    private static final int LOOSE = 1;
    private static final int LAST_KIND = 4;

    private static final int TAPE = 1500;
    private static final int ROCKS = 10;
    private static final int REMAINS = 10;
    private static final int RULE_LINES = 24;
    private static final int RULE_DAYS = 8;
    private static final int NESTED = 4;
    private static final int STACK = 32;

    private static final int BELOW_ALL = 1 << 10;
    private static final int ABOVE_ALL = 1 << 11;

    private static final int FAR = 1 << 28;

    private static final int NAME_LINE = 0;
    private static final int RANK_LINE = 1;
    private static final int DRAW_LINE = 2;

    private static final int DOTTED_LINE = 1;
    private static final int BROKEN_LINE = 2;
    private static final int FULL_LINE = 3;
    private static final int NO_LINE = 0;

    private static final int FACTS = 12;
    private static final int AGREE = 8;
    private static final int APART = 9;
    private static final int SAME = 10;
    private static final int KEPT = 11;

    private static final int ADD = -21;
    private static final int SUBTRACT = -22;
    private static final int LESS = -23;
    private static final int EQUAL = -24;
    private static final int BOTH = -25;
    private static final int EITHER = -26;
    private static final int NEGATE = -27;

    private int now;
    private int viewTold;
    private final Land land;
    private final Sight[] sights;
    private int sightCount;
    private final Reader reader;
    private final RuleBook book;
    private Rules inForce;
    private final Break[] breaks;
    private int breakCount;
    private int margin;
    private final Sheet[] sheets;
    private int sheetCount;
    private final Search search;
    private final Ground[] grounds;
    private boolean settled;
    private boolean judged;
    private Ground finest;
    private final int[] facts;

    public LandSurvey() {
        viewTold = NONE;
        land = new Land();
        sights = new Sight[MOST_SIGHTS];
        reader = new Reader();
        book = new RuleBook();
        inForce = book.empty;
        breaks = new Break[MOST_BREAKS];
        sheets = new Sheet[MOST_SHEETS];
        search = new Search(sights, breaks);
        grounds = new Ground[1 << MOST_BREAKS];
        facts = new int[FACTS];
    }

    public int days(int n) {
        if (n < 0 || n > MOST_DAYS_AT_ONCE || now + n > LAST_DAY) {
            return NONE;
        }
        now += n;
        return now;
    }

    public boolean view(int day) {
        if (day < 0 || day > now) {
            return false;
        }
        viewTold = day == now ? NONE : day;
        settled = false;
        return true;
    }

    public boolean cell(int column, int line, int height, boolean bare) {
        int cell = cellAt(column, line);
        if (cell == NONE || height < 0 || height > MOST_HEIGHT) {
            return false;
        }
        land.height[cell] = height;
        land.covered[cell] = !bare;
        settled = false;
        return true;
    }

    public boolean fold(int column, int line, boolean yes) {
        int cell = cellAt(column, line);
        if (cell == NONE) {
            return false;
        }
        land.turned[cell] = yes;
        settled = false;
        return true;
    }

    public boolean own(int column, int line, int owner) {
        int cell = cellAt(column, line);
        if (cell == NONE || owner < NONE || owner >= MOST_OWNERS) {
            return false;
        }
        land.owner[cell] = owner;
        return true;
    }

    public int sight(int kind, int column, int line, int depth, int hand, int facts) {
        int cell = cellAt(column, line);
        if (cell == NONE || kind < 0 || kind > LAST_KIND || sightCount >= MOST_SIGHTS) {
            return NONE;
        }
        int deepest = kind == SEEN || kind == LOOSE ? 0 : MOST_HEIGHT;
        if (depth < 0 || depth > deepest || hand < 0 || hand >= MOST_HANDS || facts < 0 || facts > 9999) {
            return NONE;
        }
        if (kind == SEEN && land.covered[cell]) {
            return NONE;
        }
        Sight made = new Sight(kind, cell, depth, hand, facts, now);
        sights[sightCount] = made;
        settled = false;
        return sightCount++;
    }

    public boolean dip(int sight, int where, int n, int w) {
        if (!isSight(sight) || sights[sight].dipWhere != NONE) {
            return false;
        }
        if (where < 0 || where >= WAYS || n < -99 || n > 99 || w < 0 || w > 99) {
            return false;
        }
        sights[sight].dipWhere = where;
        sights[sight].dipBeyond = neighbour(sights[sight].cell, where);
        sights[sight].dipRise = n;
        sights[sight].dipSlack = w;
        settled = false;
        return true;
    }

    public boolean remain(int sight, int n, boolean washed) {
        if (!isSight(sight) || sights[sight].remain != NONE || n < 0 || n >= REMAINS) {
            return false;
        }
        sights[sight].remain = n;
        sights[sight].washed = washed;
        return true;
    }

    public boolean withdraw(int sight) {
        if (!isSight(sight) || sights[sight].withdrawn != NONE) {
            return false;
        }
        sights[sight].withdrawn = now;
        settled = false;
        return true;
    }

    public int feed(long a, long b, long c) {
        reader.takeSigns(a);
        reader.takeSigns(b);
        reader.takeSigns(c);
        return reader.length;
    }

    public int rules() {
        int fault = reader.readTape();
        if (fault != 0) {
            return fault;
        }
        if (!book.enact(now, reader.made)) {
            return NONE;
        }
        settled = false;
        return 0;
    }

    public int fault(int column, int line, boolean down, int sides, int from, int to, int cost) {
        int cell = cellAt(column, line);
        if (cell == NONE || breakCount >= MOST_BREAKS || sides < 1 || sides > COLUMNS) {
            return NONE;
        }
        if (from < -300 || to > 300 || from > to || cost < 1 || cost > 99) {
            return NONE;
        }
        boolean fits = down
            ? column + 1 < COLUMNS && line + sides <= LINES
            : line + 1 < LINES && column + sides <= COLUMNS;
        if (!fits) {
            return NONE;
        }
        breaks[breakCount] = new Break(cell, down, sides, from, to, cost);
        settled = false;
        return breakCount++;
    }

    public boolean rivalry(int n) {
        if (n < 0 || n > MOST_RIVALRY) {
            return false;
        }
        margin = n;
        return true;
    }

    public int look(int sight, int what) throws NoSuchElementException {
        if (!isSight(sight) || what < 0 || what > 7) {
            throw new NoSuchElementException();
        }
        settle();
        Sight seen = sights[sight];
        if (what >= 5 && !seen.says) {
            throw new NoSuchElementException();
        }
        switch (what) {
            case 0: return seen.rock;
            case 1: return seen.worth;
            case 2: return seen.says ? 1 : 0;
            case 3: return agesQuarrelIn(seen) ? 1 : 0;
            case 4: return isDoubtedInBest(sight) ? 1 : 0;
            case 5: return seen.least;
            case 6: return seen.most;
            default: return seen.namedBy;
        }
    }

    public int cost(int breaks) {
        Ground ground = groundOf(breaks);
        return ground == null ? NONE : ground.cost;
    }

    public int doubted(int breaks, int i) {
        Ground ground = groundOf(breaks);
        if (ground == null || i < 0) {
            return NONE;
        }
        int ahead = i;
        for (int k = 0; k < sightCount; k++) {
            if (ground.doubts(k)) {
                if (ahead == 0) {
                    return k;
                }
                ahead--;
            }
        }
        return NONE;
    }

    public int best(int what) {
        judge();
        if (what == 3) {
            return countKept();
        }
        if (finest == null) {
            return NONE;
        }
        switch (what) {
            case 0: return finest.set;
            case 1: return finest.cost;
            case 2: return Long.bitCount(finest.doubted);
            default: return NONE;
        }
    }

    public int kept(int breaks) {
        if (!isSet(breaks)) {
            return NONE;
        }
        judge();
        return isKept(breaks) ? 1 : 0;
    }

    public int base(int breaks, int column, int line, int what) throws NoSuchElementException {
        int cell = cellAt(column, line);
        if (cell == NONE || what < 0 || what > 1) {
            throw new NoSuchElementException();
        }
        Ground ground = groundOf(breaks);
        if (ground == null || !ground.known) {
            throw new NoSuchElementException();
        }
        if (!ground.spanned) {
            search.span(ground);
        }
        return what == 0 ? ground.low[cell] : ground.high[cell];
    }

    public int lies(int column, int line, int depth) {
        int cell = cellAt(column, line);
        if (cell == NONE || depth < 0 || depth > MOST_DEPTH_ASKED || !prepare()) {
            return NONE;
        }
        return mayLieByAll(cell, depth);
    }

    public int line(int column, int line, int where) {
        int here = cellAt(column, line);
        if (here == NONE || where < 0 || where >= WAYS) {
            return NONE;
        }
        int there = neighbour(here, where);
        if (there == NONE || !prepare()) {
            return NONE;
        }
        gatherLineFacts(here, there);
        int drawn = inForce.firstThatTells(DRAW_LINE, facts);
        if (drawn != NONE) {
            return inForce.lineSays[drawn];
        }
        if (facts[AGREE] == 1000) {
            return FULL_LINE;
        }
        if (facts[APART] == 1000) {
            return BROKEN_LINE;
        }
        return facts[SAME] == 1000 ? NO_LINE : DOTTED_LINE;
    }

    public int deep(int column, int line, int rock, int what) throws NoSuchElementException {
        int cell = cellAt(column, line);
        if (cell == NONE || what < 0 || what > 1 || !prepare() || !isRock(rock) || !allKeptKnown()) {
            throw new NoSuchElementException();
        }
        return what == 0 ? leastTop(cell, rock) : greatestTop(cell, rock);
    }

    public int water(int column, int line, int what) {
        int cell = cellAt(column, line);
        if (cell == NONE || what < 0 || what > 1 || !prepare() || !allKeptKnown()) {
            return NONE;
        }
        int below = land.turned[cell] ? -1 : 1;
        int rock = land.turned[cell] ? inForce.rocks - 1 : 0;
        for (int n = 1; n < inForce.rocks; n++) {
            if (inForce.holdsWater(rock) && inForce.isTight(rock + below) && leastFoot(cell, rock) >= 0) {
                return what == 0 ? leastFoot(cell, rock) : greatestFoot(cell, rock);
            }
            rock += below;
        }
        return NONE;
    }

    public int seam(int rock, int owner, int what) {
        if (owner < 0 || owner >= MOST_OWNERS || what < 0 || what > 1) {
            return NONE;
        }
        if (!prepare() || !isRock(rock) || !allKeptKnown()) {
            return NONE;
        }
        int sum = 0;
        for (int cell = 0; cell < CELLS; cell++) {
            if (land.owner[cell] == owner) {
                sum += what == 0 ? surelyThick(cell, rock) : perhapsThick(cell, rock);
            }
        }
        return sum;
    }

    public int sheet(int column, int line, int toColumn, int toLine) {
        int from = cellAt(column, line);
        int to = cellAt(toColumn, toLine);
        if (from == NONE || to == NONE || column > toColumn || line > toLine) {
            return NONE;
        }
        if (sheetCount >= MOST_SHEETS || !prepare()) {
            return NONE;
        }
        Sheet made = new Sheet();
        for (int y = line; y <= toLine; y++) {
            for (int x = column; x <= toColumn; x++) {
                int cell = COLUMNS * y + x;
                made.bits[cell] = mayLieByAll(cell, 0);
            }
        }
        sheets[sheetCount] = made;
        return sheetCount++;
    }

    public int drawn(int sheet, int column, int line) {
        int cell = cellAt(column, line);
        return cell == NONE || !isSheet(sheet) ? NONE : sheets[sheet].bits[cell];
    }

    public int quarrel(int a, int b) {
        if (!isSheet(a) || !isSheet(b)) {
            return NONE;
        }
        int count = 0;
        for (int cell = 0; cell < CELLS; cell++) {
            int one = sheets[a].bits[cell];
            int other = sheets[b].bits[cell];
            if (one != NONE && other != NONE && (one & other) == 0) {
                count++;
            }
        }
        return count;
    }

    public int stale(int sheet) {
        if (!isSheet(sheet) || !prepare()) {
            return NONE;
        }
        int count = 0;
        for (int cell = 0; cell < CELLS; cell++) {
            int bits = sheets[sheet].bits[cell];
            if (bits != NONE && bits != mayLieByAll(cell, 0)) {
                count++;
            }
        }
        return count;
    }

    public int doubles(int a, int b, int what) {
        if (!isHand(a) || !isHand(b) || a == b || what < 0 || what > 1) {
            return NONE;
        }
        settle();
        int count = 0;
        for (int i = 0; i < sightCount; i++) {
            for (int j = 0; j < sightCount; j++) {
                if (sights[i].hand == a && sights[j].hand == b && areDoubles(sights[i], sights[j])) {
                    count += what == 0 || sights[i].rock == sights[j].rock ? 1 : 0;
                }
            }
        }
        return count;
    }

    public int habit(int hand) throws NoSuchElementException {
        if (!isHand(hand)) {
            throw new NoSuchElementException();
        }
        settle();
        int count = 0;
        int sum = 0;
        for (int i = 0; i < sightCount; i++) {
            for (int j = 0; j < sightCount; j++) {
                if (sights[i].hand == hand && sights[j].hand != hand && areDoubles(sights[i], sights[j])) {
                    count++;
                    sum += sights[i].rock - sights[j].rock;
                }
            }
        }
        if (count < 3 || 2 * Math.abs(sum) <= count) {
            return 0;
        }
        return sum > 0 ? 1 : -1;
    }

    public boolean question(int column, int line, boolean yes) {
        int cell = cellAt(column, line);
        if (cell == NONE) {
            return false;
        }
        if (land.asked[cell] == yes) {
            return true;
        }
        if (yes && land.askedCount >= MOST_PLANNED) {
            return false;
        }
        land.asked[cell] = yes;
        land.askedCount += yes ? 1 : -1;
        return true;
    }

    public int place(int column, int line, int cost) {
        int cell = cellAt(column, line);
        if (cell == NONE || cost < 1 || cost > 99 || land.placeCount >= MOST_PLANNED) {
            return NONE;
        }
        land.placeCell[land.placeCount] = cell;
        land.placeCost[land.placeCount] = cost;
        return land.placeCount++;
    }

    public int doubt() {
        Ground ground = knownBest();
        return ground == null ? NONE : doubtIn(ground);
    }

    public int left(int place) {
        if (place < 0 || place >= land.placeCount) {
            return NONE;
        }
        Ground ground = knownBest();
        if (ground == null) {
            return NONE;
        }
        search.lay(ground.set, ground.doubted);
        return leftBehind(ground, land.placeCell[place]);
    }

    public int next() {
        Ground ground = knownBest();
        if (ground == null) {
            return NONE;
        }
        search.lay(ground.set, ground.doubted);
        int whole = doubtIn(ground);
        int chosen = NONE;
        long gain = 0;
        long price = 1;
        for (int k = 0; k < land.placeCount; k++) {
            long gained = whole - leftBehind(ground, land.placeCell[k]);
            if (gained * price > gain * land.placeCost[k]) {
                chosen = k;
                gain = gained;
                price = land.placeCost[k];
            }
        }
        return chosen;
    }

    public int count(int what) {
        settle();
        switch (what) {
            case 0: return now;
            case 1: return dayShown();
            case 2: return sightCount;
            case 3: return countSaying(false);
            case 4: return inForce.rocks;
            case 5: return breakCount;
            case 6: return sheetCount;
            case 7: return countSaying(true);
            case 8: return book.size;
            case 9: return reader.length;
            case 10: return prepare() ? countCertain() : 0;
            case 11: return land.askedCount;
            case 12: return land.placeCount;
            default: return NONE;
        }
    }

    private static int cellAt(int column, int line) {
        if (column < 0 || column >= COLUMNS || line < 0 || line >= LINES) {
            return NONE;
        }
        return COLUMNS * line + column;
    }

    private static int neighbour(int cell, int where) {
        switch (where) {
            case LEFTWARDS: return cell % COLUMNS > 0 ? cell - 1 : NONE;
            case RIGHTWARDS: return cell % COLUMNS < COLUMNS - 1 ? cell + 1 : NONE;
            case UPWARDS: return cell >= COLUMNS ? cell - COLUMNS : NONE;
            case DOWNWARDS: return cell < CELLS - COLUMNS ? cell + COLUMNS : NONE;
            default: return NONE;
        }
    }

    private boolean isSight(int sight) {
        return sight >= 0 && sight < sightCount;
    }

    private boolean isSheet(int sheet) {
        return sheet >= 0 && sheet < sheetCount;
    }

    private boolean isRock(int rock) {
        return rock >= 0 && rock < inForce.rocks;
    }

    private boolean isSet(int set) {
        return set >= 0 && set < 1 << breakCount;
    }

    private static boolean isHand(int hand) {
        return hand >= 0 && hand < MOST_HANDS;
    }

    private int dayShown() {
        return viewTold == NONE ? now : viewTold;
    }

    /** Sights are read by the rules once after each change, not at each question. */
    private void settle() {
        if (settled) {
            return;
        }
        settled = true;
        judged = false;
        inForce = book.ofDay(dayShown());
        for (int k = 0; k < sightCount; k++) {
            interpret(sights[k]);
        }
        for (int set = 0; set < 1 << breakCount; set++) {
            if (grounds[set] == null) {
                grounds[set] = new Ground(set);
            }
            grounds[set].solved = false;
        }
        search.begin(sightCount, breakCount, inForce.steep);
    }

    private void interpret(Sight seen) {
        Arrays.fill(facts, 0);
        facts[0] = seen.facts / 1000;
        facts[1] = seen.facts / 100 % 10;
        facts[2] = seen.facts / 10 % 10;
        facts[3] = seen.facts % 10;
        facts[4] = seen.kind;
        facts[5] = seen.hand;
        facts[6] = seen.depth;
        facts[7] = land.height[seen.cell];
        seen.namedBy = inForce.firstThatTells(NAME_LINE, facts);
        seen.rock = seen.namedBy == NONE ? NONE : inForce.lineSays[seen.namedBy];
        int ranked = inForce.firstThatTells(RANK_LINE, facts);
        seen.worth = ranked == NONE ? 10 : inForce.lineSays[ranked];
        seen.says = seen.rock != NONE && seen.isInView(dayShown());
        if (seen.says) {
            boolean turned = land.turned[seen.cell];
            int z = land.height[seen.cell] - seen.depth;
            int slack = seen.kind == LOOSE ? inForce.drift : 0;
            seen.least = inForce.leastBase(seen.rock, turned, z) - slack;
            seen.most = inForce.mostBase(seen.rock, turned, z) + slack;
        }
    }

    private boolean agesQuarrelIn(Sight seen) {
        if (seen.rock == NONE || seen.remain == NONE || seen.washed) {
            return false;
        }
        int from = inForce.remainFrom[seen.remain];
        return from != NONE && (seen.rock < from || seen.rock > inForce.remainTo[seen.remain]);
    }

    private boolean isDoubtedInBest(int sight) {
        return judge() && finest.doubts(sight);
    }

    private int countSaying(boolean onlyQuarrels) {
        int count = 0;
        for (int k = 0; k < sightCount; k++) {
            if (sights[k].says && (!onlyQuarrels || agesQuarrelIn(sights[k]))) {
                count++;
            }
        }
        return count;
    }

    private static boolean areDoubles(Sight one, Sight other) {
        return one.says && other.says && one.cell == other.cell && one.depth == other.depth;
    }

    /** The ground of a set of breaks; null without one. */
    private Ground groundOf(int set) {
        if (!isSet(set)) {
            return null;
        }
        settle();
        Ground ground = grounds[set];
        if (!ground.solved) {
            search.solve(ground);
        }
        return ground.found ? ground : null;
    }

    /** Whether there is a best ground, and so anything that is kept. */
    private boolean judge() {
        settle();
        if (!judged) {
            judged = true;
            finest = null;
            for (int set = 0; set < 1 << breakCount; set++) {
                Ground ground = grounds[set];
                if (!ground.solved) {
                    search.solve(ground);
                }
                if (ground.found && (finest == null || ground.cost < finest.cost)) {
                    finest = ground;
                }
            }
        }
        return finest != null;
    }

    private boolean isKept(int set) {
        return finest != null && grounds[set].found && grounds[set].cost <= finest.cost + margin;
    }

    private int countKept() {
        int count = 0;
        for (int set = 0; set < 1 << breakCount; set++) {
            count += isKept(set) ? 1 : 0;
        }
        return count;
    }

    /** Whether anything is kept, with low and high at hand for all that is and is known. */
    private boolean prepare() {
        if (!judge()) {
            return false;
        }
        for (int set = 0; set < 1 << breakCount; set++) {
            if (isKept(set) && grounds[set].known && !grounds[set].spanned) {
                search.span(grounds[set]);
            }
        }
        return true;
    }

    private boolean allKeptKnown() {
        for (int set = 0; set < 1 << breakCount; set++) {
            if (isKept(set) && !grounds[set].known) {
                return false;
            }
        }
        return true;
    }

    /** The best ground with its low and high at hand; null without one, or if it is unknown. */
    private Ground knownBest() {
        if (!judge() || !finest.known) {
            return null;
        }
        if (!finest.spanned) {
            search.span(finest);
        }
        return finest;
    }

    private int mayLie(Ground ground, int cell, int depth) {
        if (!ground.known) {
            return (1 << inForce.rocks) - 1 | BELOW_ALL | ABOVE_ALL;
        }
        int z = land.height[cell] - depth;
        int low = ground.low[cell];
        int high = ground.high[cell];
        int bits = high > z ? BELOW_ALL : 0;
        if (z > low + inForce.leastOfAll) {
            bits |= ABOVE_ALL;
        }
        boolean turned = land.turned[cell];
        for (int rock = 0; rock < inForce.rocks; rock++) {
            if (low <= inForce.mostBase(rock, turned, z) && high >= inForce.leastBase(rock, turned, z)) {
                bits |= 1 << rock;
            }
        }
        return bits;
    }

    private int mayLieByAll(int cell, int depth) {
        int bits = 0;
        for (int set = 0; set < 1 << breakCount; set++) {
            if (isKept(set)) {
                bits |= mayLie(grounds[set], cell, depth);
            }
        }
        return bits;
    }

    private int countCertain() {
        int count = 0;
        for (int cell = 0; cell < CELLS; cell++) {
            count += Integer.bitCount(mayLieByAll(cell, 0)) == 1 ? 1 : 0;
        }
        return count;
    }

    private void gatherLineFacts(int here, int there) {
        int all = 0;
        int agree = 0;
        int apart = 0;
        int same = 0;
        for (int set = 0; set < 1 << breakCount; set++) {
            if (isKept(set)) {
                int one = mayLie(grounds[set], here, 0);
                int other = mayLie(grounds[set], there, 0);
                boolean certain = Integer.bitCount(one) == 1 && Integer.bitCount(other) == 1;
                all++;
                agree += certain && one != other ? 1 : 0;
                apart += (one & other) == 0 ? 1 : 0;
                same += certain && one == other ? 1 : 0;
            }
        }
        Arrays.fill(facts, 0);
        if (all > 0) {
            facts[AGREE] = 1000 * agree / all;
            facts[APART] = 1000 * apart / all;
            facts[SAME] = 1000 * same / all;
            facts[KEPT] = all;
        }
    }

    private int greatestHigh(int cell) {
        int high = -FAR;
        for (int set = 0; set < 1 << breakCount; set++) {
            if (isKept(set)) {
                high = Math.max(high, grounds[set].high[cell]);
            }
        }
        return high;
    }

    private int leastLow(int cell) {
        int low = FAR;
        for (int set = 0; set < 1 << breakCount; set++) {
            if (isKept(set)) {
                low = Math.min(low, grounds[set].low[cell]);
            }
        }
        return low;
    }

    private int leastFoot(int cell, int rock) {
        return land.height[cell] - greatestHigh(cell) - inForce.underMost(rock, land.turned[cell]);
    }

    private int greatestFoot(int cell, int rock) {
        return land.height[cell] - leastLow(cell) - inForce.underLeast(rock, land.turned[cell]);
    }

    private int leastTop(int cell, int rock) {
        return leastFoot(cell, rock) - inForce.thick[rock];
    }

    private int greatestTop(int cell, int rock) {
        return greatestFoot(cell, rock) - inForce.thin[rock];
    }

    private int surelyThick(int cell, int rock) {
        return leastTop(cell, rock) >= 0 ? inForce.thin[rock] : 0;
    }

    private int perhapsThick(int cell, int rock) {
        return greatestFoot(cell, rock) > 0 ? inForce.thick[rock] : 0;
    }

    private int doubtIn(Ground ground) {
        int sum = 0;
        for (int cell = 0; cell < CELLS; cell++) {
            if (land.asked[cell]) {
                sum += ground.high[cell] - ground.low[cell];
            }
        }
        return sum;
    }

    private int leftBehind(Ground ground, int cell) {
        search.measureWays(cell);
        int low = ground.low[cell];
        int high = ground.high[cell];
        int middle = Math.floorDiv(low + high, 2);
        int most = Math.max(leftIfFound(ground, low), leftIfFound(ground, high));
        return Math.max(most, leftIfFound(ground, middle));
    }

    private int leftIfFound(Ground ground, int v) {
        int sum = 0;
        for (int cell = 0; cell < CELLS; cell++) {
            if (land.asked[cell]) {
                int high = Math.min(ground.high[cell], v + search.reach[cell]);
                int low = Math.max(ground.low[cell], v - search.backReach[cell]);
                sum += high - low;
            }
        }
        return sum;
    }

    /** What is told of the cells, whatever day is shown, with what is asked and where one may bore. */
    private static final class Land {
        final int[] height = new int[CELLS];
        final boolean[] covered = new boolean[CELLS];
        final boolean[] turned = new boolean[CELLS];
        final int[] owner = new int[CELLS];
        final boolean[] asked = new boolean[CELLS];
        int askedCount;
        final int[] placeCell = new int[MOST_PLANNED];
        final int[] placeCost = new int[MOST_PLANNED];
        int placeCount;

        Land() {
            Arrays.fill(height, 500);
            Arrays.fill(owner, NONE);
        }
    }

    /** What was told of one spot; the last six fields are how the rules of the view take it. */
    private static final class Sight {
        final int kind;
        final int cell;
        final int depth;
        final int hand;
        final int facts;
        final int day;
        int withdrawn = NONE;
        int dipWhere = NONE;
        int dipBeyond = NONE;
        int dipRise;
        int dipSlack;
        int remain = NONE;
        boolean washed;
        int namedBy = NONE;
        int rock = NONE;
        int worth;
        boolean says;
        int least;
        int most;

        Sight(int kind, int cell, int depth, int hand, int facts, int day) {
            this.kind = kind;
            this.cell = cell;
            this.depth = depth;
            this.hand = hand;
            this.facts = facts;
            this.day = day;
        }

        boolean isInView(int shown) {
            return day <= shown && (withdrawn == NONE || withdrawn > shown);
        }
    }

    /** A line of sides that may be broken, and what the base does beyond them. */
    private static final class Break {
        final int cell;
        final boolean down;
        final int sides;
        final int from;
        final int to;
        final int cost;

        Break(int cell, boolean down, int sides, int from, int to, int cost) {
            this.cell = cell;
            this.down = down;
            this.sides = sides;
            this.from = from;
            this.to = to;
            this.cost = cost;
        }
    }

    /** What may lie at the top of each cell of a sheet, as drawn; NONE for cells that it has not. */
    private static final class Sheet {
        final int[] bits = new int[CELLS];

        Sheet() {
            Arrays.fill(bits, NONE);
        }
    }

    /** What was found for one set of breaks; low and high hold only once it is spanned. */
    private static final class Ground {
        final int set;
        boolean solved;
        boolean found;
        int cost;
        long doubted;
        boolean known;
        boolean spanned;
        final int[] low = new int[CELLS];
        final int[] high = new int[CELLS];

        Ground(int set) {
            this.set = set;
        }

        boolean doubts(int sight) {
            return (doubted >> sight & 1) != 0;
        }
    }

    /** How much higher the base can be at each neighbour of a cell, and the sight (a bit) that says so. */
    private static final class Slopes {
        final int[] rise = new int[WAYS * CELLS];
        final long[] blamed = new long[WAYS * CELLS];
        final int[] came = new int[CELLS];
        boolean moved;

        void level(int steep) {
            Arrays.fill(rise, steep);
            Arrays.fill(blamed, 0);
            Arrays.fill(came, NONE);
        }

        /** The first dip of a side puts its steepness away, so it may also allow more than that. */
        void narrow(int edge, int most, long sight) {
            if (blamed[edge] == 0 || most < rise[edge]) {
                rise[edge] = most;
                blamed[edge] = sight;
            }
        }

        void tear(Break broken) {
            int step = broken.down ? COLUMNS : 1;
            int beyond = broken.down ? 1 : COLUMNS;
            int way = broken.down ? RIGHTWARDS : DOWNWARDS;
            int back = broken.down ? LEFTWARDS : UPWARDS;
            for (int n = 0; n < broken.sides; n++) {
                int cell = broken.cell + n * step;
                int edge = WAYS * cell + way;
                int home = WAYS * (cell + beyond) + back;
                rise[edge] = broken.to;
                blamed[edge] = 0;
                rise[home] = -broken.from;
                blamed[home] = 0;
            }
        }

        /** Two passes, one either way, since most reaches are carried along lines and columns. */
        void sweep(int[] reach, boolean back) {
            for (int cell = 1; cell < CELLS; cell++) {
                if (cell % COLUMNS != 0) {
                    int left = cell - 1;
                    carry(reach, left, cell, back ? WAYS * cell + LEFTWARDS : WAYS * left + RIGHTWARDS);
                }
                if (cell >= COLUMNS) {
                    int above = cell - COLUMNS;
                    carry(reach, above, cell, back ? WAYS * cell + UPWARDS : WAYS * above + DOWNWARDS);
                }
            }
            for (int cell = CELLS - 2; cell >= 0; cell--) {
                if (cell % COLUMNS != COLUMNS - 1) {
                    int right = cell + 1;
                    carry(reach, right, cell, back ? WAYS * cell + RIGHTWARDS : WAYS * right + LEFTWARDS);
                }
                if (cell < CELLS - COLUMNS) {
                    int below = cell + COLUMNS;
                    carry(reach, below, cell, back ? WAYS * cell + DOWNWARDS : WAYS * below + UPWARDS);
                }
            }
        }

        private void carry(int[] reach, int from, int to, int edge) {
            int carried = reach[from] + rise[edge];
            if (carried < reach[to] && reach[from] < FAR) {
                reach[to] = carried;
                came[to] = edge;
                moved = true;
            }
        }

        /** Without a loop that sinks, as many sweeps as cells are always enough. */
        void spread(int[] reach, boolean back) {
            moved = true;
            for (int pass = 0; pass <= CELLS && moved; pass++) {
                moved = false;
                sweep(reach, back);
            }
        }
    }

    /** Finds, for a set of breaks, the cheapest sights to doubt so that a base is left for each cell. */
    private static final class Search {
        private static final int PATIENCE = 3;

        final Slopes slopes = new Slopes();
        final Sight[] sights;
        final Break[] breaks;
        int sightCount;
        int breakCount;
        int steep;
        final int[] reach = new int[CELLS];
        final int[] backReach = new int[CELLS];
        final int[] floor = new int[CELLS];
        final long[] floorBlamed = new long[CELLS];
        final long[] reachBlamed = new long[CELLS];
        final int[] walked = new int[CELLS];
        boolean fits;

        Search(Sight[] sights, Break[] breaks) {
            this.sights = sights;
            this.breaks = breaks;
        }

        void begin(int sightCount, int breakCount, int steep) {
            this.sightCount = sightCount;
            this.breakCount = breakCount;
            this.steep = steep;
        }

        void solve(Ground ground) {
            ground.solved = true;
            ground.found = false;
            ground.spanned = false;
            int cost = 0;
            for (int k = 0; k < breakCount; k++) {
                cost += (ground.set >> k & 1) != 0 ? breaks[k].cost : 0;
            }
            weigh(ground, 0, 0, cost, 0);
            ground.known = ground.found && saysAnything(ground.doubted);
        }

        private boolean saysAnything(long doubted) {
            for (int k = 0; k < sightCount; k++) {
                if (sights[k].says && (doubted >> k & 1) == 0) {
                    return true;
                }
            }
            return false;
        }

        /**
         * What clashes goes on clashing when more is doubted, unless one of the sights in the clash is:
         * so only these are tried, and each of them is barred from the tries behind its own.
         */
        private void weigh(Ground ground, long doubted, long barred, int cost, int depth) {
            long clash = findClash(ground.set, doubted);
            if (fits) {
                ground.found = true;
                ground.cost = cost;
                ground.doubted = doubted;
                return;
            }
            if (depth >= MOST_DOUBTED) {
                return;
            }
            long put = barred;
            for (int k = 0; k < sightCount; k++) {
                long bit = 1L << k;
                if ((clash & bit) != 0 && (put & bit) == 0) {
                    if (isBetter(ground, cost + sights[k].worth, doubted | bit)) {
                        weigh(ground, doubted | bit, put, cost + sights[k].worth, depth + 1);
                    }
                    put |= bit;
                }
            }
        }

        private static boolean isBetter(Ground ground, int cost, long doubted) {
            return !ground.found || cost < ground.cost || cost == ground.cost && doubted < ground.doubted;
        }

        /** The sights that can't all hold; fits tells whether there is a base for each cell. */
        private long findClash(int set, long doubted) {
            lay(set, doubted);
            fits = false;
            for (int pass = 0; pass <= 2 * CELLS; pass++) {
                int sunk = firstBelowFloor();
                if (sunk != NONE) {
                    return blameWayTo(sunk);
                }
                slopes.moved = false;
                slopes.sweep(reach, false);
                if (!slopes.moved) {
                    fits = true;
                    return 0;
                }
                int looped = pass < PATIENCE ? NONE : firstOnLoop();
                if (looped != NONE) {
                    return blameLoop(looped);
                }
            }
            return 0;
        }

        /** Lays out what a ground says of neighbours, and what its sights say of the base. */
        void lay(int set, long doubted) {
            slopes.level(steep);
            Arrays.fill(reach, FAR);
            Arrays.fill(floor, -FAR);
            boolean known = false;
            for (int k = 0; k < sightCount; k++) {
                Sight seen = sights[k];
                if (seen.says && (doubted >> k & 1) == 0) {
                    known = true;
                    layBounds(seen, 1L << k);
                    if (seen.dipBeyond != NONE) {
                        // ways come in pairs, so the last bit turns one round
                        int home = WAYS * seen.dipBeyond + (seen.dipWhere ^ 1);
                        slopes.narrow(WAYS * seen.cell + seen.dipWhere, seen.dipRise + seen.dipSlack, 1L << k);
                        slopes.narrow(home, seen.dipSlack - seen.dipRise, 1L << k);
                    }
                }
            }
            if (!known) {
                Arrays.fill(reach, 0);
            }
            for (int k = breakCount - 1; k >= 0; k--) {
                if ((set >> k & 1) != 0) {
                    slopes.tear(breaks[k]);
                }
            }
        }

        private void layBounds(Sight seen, long bit) {
            int cell = seen.cell;
            if (seen.most < reach[cell]) {
                reach[cell] = seen.most;
                reachBlamed[cell] = bit;
            }
            if (seen.least > floor[cell]) {
                floor[cell] = seen.least;
                floorBlamed[cell] = bit;
            }
        }

        private int firstBelowFloor() {
            for (int cell = 0; cell < CELLS; cell++) {
                if (reach[cell] < floor[cell]) {
                    return cell;
                }
            }
            return NONE;
        }

        private int firstOnLoop() {
            Arrays.fill(walked, NONE);
            for (int start = 0; start < CELLS; start++) {
                int cell = start;
                for (int step = 0; step <= CELLS && walked[cell] == NONE; step++) {
                    walked[cell] = start;
                    if (slopes.came[cell] != NONE) {
                        cell = slopes.came[cell] / WAYS;
                        if (walked[cell] == start) {
                            return cell;
                        }
                    }
                }
            }
            return NONE;
        }

        private long blameWayTo(int sunk) {
            long blame = floorBlamed[sunk];
            int cell = sunk;
            for (int step = 0; step < CELLS; step++) {
                int edge = slopes.came[cell];
                if (edge == NONE) {
                    return blame | reachBlamed[cell];
                }
                blame |= slopes.blamed[edge];
                cell = edge / WAYS;
            }
            return blameLoop(cell);
        }

        private long blameLoop(int start) {
            long blame = 0;
            int cell = start;
            for (int step = 0; step < CELLS && slopes.came[cell] != NONE; step++) {
                blame |= slopes.blamed[slopes.came[cell]];
                cell = slopes.came[cell] / WAYS;
                if (cell == start) {
                    break;
                }
            }
            return blame;
        }

        void span(Ground ground) {
            ground.spanned = true;
            lay(ground.set, ground.doubted);
            for (int cell = 0; cell < CELLS; cell++) {
                backReach[cell] = -floor[cell];
            }
            slopes.spread(reach, false);
            slopes.spread(backReach, true);
            for (int cell = 0; cell < CELLS; cell++) {
                ground.high[cell] = reach[cell];
                ground.low[cell] = -backReach[cell];
            }
        }

        /** How much higher the base can be at each cell than at this one, and at this one than there. */
        void measureWays(int cell) {
            Arrays.fill(reach, FAR);
            Arrays.fill(backReach, FAR);
            reach[cell] = 0;
            backReach[cell] = 0;
            slopes.spread(reach, false);
            slopes.spread(backReach, true);
        }
    }

    /** The rules of each day that has some. */
    private static final class RuleBook {
        final int[] days = new int[RULE_DAYS];
        final Rules[] read = new Rules[RULE_DAYS];
        int size;
        final Rules empty = new Rules();

        /** Days come in order, so the last one ahead is the one in force. */
        Rules ofDay(int day) {
            for (int k = size - 1; k >= 0; k--) {
                if (days[k] <= day) {
                    return read[k];
                }
            }
            return empty;
        }

        boolean enact(int day, Rules rules) {
            boolean again = size > 0 && days[size - 1] == day;
            if (!again) {
                if (size >= RULE_DAYS) {
                    return false;
                }
                size++;
            }
            days[size - 1] = day;
            read[size - 1] = rules;
            return true;
        }
    }

    /** Rules as read: rocks from the youngest, and lines whose tests stand as code for a stack. */
    private static final class Rules {
        int rocks;
        final long[] names = new long[ROCKS];
        final int[] thin = new int[ROCKS];
        final int[] thick = new int[ROCKS];
        final int[] leastBelow = new int[2 * ROCKS];
        final int[] mostBelow = new int[2 * ROCKS];
        int leastOfAll;
        int steep = 10;
        int drift = 20;
        int holding;
        int tightOnes;
        final int[] remainFrom = new int[REMAINS];
        final int[] remainTo = new int[REMAINS];
        int lines;
        final int[] lineKind = new int[RULE_LINES];
        final int[] lineSays = new int[RULE_LINES];
        final int[] lineEnd = new int[RULE_LINES];
        int[] code = new int[0];
        final int[] stack = new int[STACK];

        Rules() {
            Arrays.fill(remainFrom, NONE);
        }

        int rockNamed(long name) {
            for (int rock = 0; rock < rocks; rock++) {
                if (names[rock] == name) {
                    return rock;
                }
            }
            return NONE;
        }

        boolean holdsWater(int rock) {
            return (holding >> rock & 1) != 0;
        }

        boolean isTight(int rock) {
            return (tightOnes >> rock & 1) != 0;
        }

        /** Sums what lies below each rock once, for either order, since every sight asks for it. */
        void addUp() {
            for (int rock = 1; rock < rocks; rock++) {
                leastBelow[ROCKS + rock] = leastBelow[ROCKS + rock - 1] + thin[rock - 1];
                mostBelow[ROCKS + rock] = mostBelow[ROCKS + rock - 1] + thick[rock - 1];
            }
            for (int rock = rocks - 2; rock >= 0; rock--) {
                leastBelow[rock] = leastBelow[rock + 1] + thin[rock + 1];
                mostBelow[rock] = mostBelow[rock + 1] + thick[rock + 1];
            }
            leastOfAll = rocks == 0 ? 0 : leastBelow[0] + thin[0];
        }

        int underLeast(int rock, boolean turned) {
            return leastBelow[turned ? ROCKS + rock : rock];
        }

        int underMost(int rock, boolean turned) {
            return mostBelow[turned ? ROCKS + rock : rock];
        }

        int leastBase(int rock, boolean turned, int z) {
            return z - underMost(rock, turned) - thick[rock];
        }

        int mostBase(int rock, boolean turned, int z) {
            return z - underLeast(rock, turned);
        }

        int firstThatTells(int kind, int[] facts) {
            for (int n = 0; n < lines; n++) {
                if (lineKind[n] == kind && worked(n, facts) != 0) {
                    return n;
                }
            }
            return NONE;
        }

        private int worked(int n, int[] facts) {
            int top = 0;
            for (int at = n == 0 ? 0 : lineEnd[n - 1]; at < lineEnd[n]; at++) {
                int sign = code[at];
                if (sign > ADD && top < STACK) {
                    stack[top] = sign >= 0 ? sign : facts[-1 - sign];
                    top++;
                } else if (sign == NEGATE && top >= 1) {
                    stack[top - 1] = stack[top - 1] == 0 ? 1 : 0;
                } else if (top >= 2) {
                    top--;
                    stack[top - 1] = joined(sign, stack[top - 1], stack[top]);
                }
            }
            return top == 0 ? 0 : stack[0];
        }

        private static int joined(int sign, int one, int other) {
            switch (sign) {
                case ADD: return one + other;
                case SUBTRACT: return one - other;
                case LESS: return one < other ? 1 : 0;
                case EQUAL: return one == other ? 1 : 0;
                case BOTH: return one != 0 && other != 0 ? 1 : 0;
                default: return one != 0 || other != 0 ? 1 : 0;
            }
        }
    }

    /**
     * The words of the language; fact is the place of what a word tells of, NONE if it tells nothing.
     * A word's code is its letters as a number to the base 27: eight fit into a long, and no text is made.
     */
    private enum Word {
        ROCK("rock", NONE), TO("to", NONE), NAME("name", NONE), WHEN("when", NONE), RANK("rank", NONE),
        DRAW("draw", NONE), FULL("full", NONE), BROKEN("broken", NONE), DOTTED("dotted", NONE),
        STEEP("steep", NONE), DRIFT("drift", NONE), HOLDS("holds", NONE), TIGHT("tight", NONE),
        REMAIN("remain", NONE), FROM("from", NONE), AND("and", NONE), OR("or", NONE), NOT("not", NONE),
        COLOUR("colour", 0), GRAIN("grain", 1), HARD("hard", 2), FIZZ("fizz", 3), KIND("kind", 4),
        HAND("hand", 5), DEPTH("depth", 6), HEIGHT("height", 7), AGREED("agree", AGREE),
        SET_APART("apart", APART), ALIKE("same", SAME), KEPT_ONES("kept", KEPT);

        private static final Word[] ALL = values();

        final long code;
        final int fact;

        Word(String text, int fact) {
            long packed = 0;
            for (int k = 0; k < text.length(); k++) {
                packed = 27 * packed + (text.charAt(k) - 'a' + 1);
            }
            this.code = packed;
            this.fact = fact;
        }

        static Word ofCode(long code) {
            for (int k = 0; k < ALL.length; k++) {
                if (ALL[k].code == code) {
                    return ALL[k];
                }
            }
            return null;
        }
    }

    /** The tape, and what reads it token by token; the first token that is wrong ends the reading. */
    private static final class Reader {
        private static final int END = 0;
        private static final int WORD = 1;
        private static final int NUMBER = 2;
        private static final int SIGN = 3;
        private static final int NOTHING = 4;
        private static final int LONGEST_WORD = 8;
        private static final int LONGEST_NUMBER = 4;

        private static final int MISPLACED = 1;
        private static final int UNTOLD = 2;
        private static final int TOLD_AGAIN = 3;
        private static final int AMISS = 4;
        private static final int TOO_MANY = 5;

        final char[] tape = new char[TAPE];
        int length;
        int at;
        int place;
        int kind;
        long value;
        Word word;
        int fault;
        int taken;
        boolean steepTold;
        boolean driftTold;
        final int[] code = new int[TAPE];
        int codeLength;
        Rules made;

        void takeSigns(long eight) {
            for (int shift = 56; shift >= 0; shift -= 8) {
                int sign = (int) (eight >>> shift) & 255;
                boolean belongs = sign == 10 || sign >= 32 && sign <= 126;
                if (belongs && length < TAPE) {
                    tape[length] = (char) sign;
                    length++;
                }
            }
        }

        /** Answers the fault, or 0 with the rules in made; the tape is empty either way. */
        int readTape() {
            made = new Rules();
            at = 0;
            fault = 0;
            codeLength = 0;
            steepTold = false;
            driftTold = false;
            advance();
            for (int n = 0; n <= TAPE && kind != END && fault == 0; n++) {
                readRule();
            }
            length = 0;
            if (fault == 0) {
                made.code = Arrays.copyOf(code, codeLength);
                made.addUp();
            }
            return fault;
        }

        /** Takes the next token in hand, as long as it can be; one that is too long is none. */
        private void advance() {
            while (at < length && (tape[at] == ' ' || tape[at] == '\n')) {
                at++;
            }
            place = at;
            word = null;
            value = 0;
            char first = at < length ? tape[at] : 0;
            if (at >= length) {
                kind = END;
            } else if (first >= 'a' && first <= 'z') {
                while (at < length && tape[at] >= 'a' && tape[at] <= 'z') {
                    value = 27 * value + (tape[at] - 'a' + 1);
                    at++;
                }
                kind = at - place <= LONGEST_WORD ? WORD : NOTHING;
                word = kind == WORD ? Word.ofCode(value) : null;
            } else if (first >= '0' && first <= '9') {
                while (at < length && tape[at] >= '0' && tape[at] <= '9') {
                    value = 10 * value + (tape[at] - '0');
                    at++;
                }
                kind = at - place <= LONGEST_NUMBER ? NUMBER : NOTHING;
            } else {
                value = first;
                kind = "()<=+-;".indexOf(first) >= 0 ? SIGN : NOTHING;
                at++;
            }
        }

        private boolean wrong(int how) {
            fault = how + 16 * place;
            return false;
        }

        private boolean isNext(char sign) {
            return kind == SIGN && value == sign;
        }

        private boolean takeOnly(char sign) {
            if (!isNext(sign)) {
                return wrong(MISPLACED);
            }
            advance();
            return true;
        }

        private boolean takeOnly(Word wanted) {
            if (word != wanted) {
                return wrong(MISPLACED);
            }
            advance();
            return true;
        }

        private boolean takeNumberWithin(int from, int to) {
            if (kind != NUMBER) {
                return wrong(MISPLACED);
            }
            if (value < from || value > to) {
                return wrong(AMISS);
            }
            taken = (int) value;
            advance();
            return true;
        }

        private boolean takeRockNotYounger(int least) {
            if (kind != WORD || word != null) {
                return wrong(MISPLACED);
            }
            int rock = made.rockNamed(value);
            if (rock == NONE) {
                return wrong(UNTOLD);
            }
            if (rock < least) {
                return wrong(AMISS);
            }
            taken = rock;
            advance();
            return true;
        }

        private boolean readRule() {
            if (word == null) {
                return wrong(MISPLACED);
            }
            if (word == Word.ROCK) {
                return readRock();
            }
            if (word == Word.NAME) {
                return mayAddLine() && takeRockNotYounger(0) && readLine(NAME_LINE);
            }
            if (word == Word.RANK) {
                return mayAddLine() && takeNumberWithin(1, 99) && readLine(RANK_LINE);
            }
            if (word == Word.DRAW) {
                return mayAddLine() && takeStyle() && readLine(DRAW_LINE);
            }
            if (word == Word.REMAIN) {
                return readRemain();
            }
            return word == Word.HOLDS || word == Word.TIGHT ? readWaterRule() : readSlopeRule();
        }

        private boolean readRock() {
            if (made.rocks >= ROCKS) {
                return wrong(TOO_MANY);
            }
            advance();
            if (kind != WORD || word != null) {
                return wrong(MISPLACED);
            }
            if (made.rockNamed(value) != NONE) {
                return wrong(TOLD_AGAIN);
            }
            long name = value;
            advance();
            if (!takeNumberWithin(0, 200)) {
                return false;
            }
            int thin = taken;
            if (!takeOnly(Word.TO) || !takeNumberWithin(thin, 200) || !takeOnly(';')) {
                return false;
            }
            made.names[made.rocks] = name;
            made.thin[made.rocks] = thin;
            made.thick[made.rocks] = taken;
            made.rocks++;
            return true;
        }

        private boolean mayAddLine() {
            if (made.lines >= RULE_LINES) {
                return wrong(TOO_MANY);
            }
            advance();
            return true;
        }

        private boolean takeStyle() {
            if (word == Word.FULL) {
                taken = FULL_LINE;
            } else if (word == Word.BROKEN) {
                taken = BROKEN_LINE;
            } else if (word == Word.DOTTED) {
                taken = DOTTED_LINE;
            } else {
                return wrong(MISPLACED);
            }
            advance();
            return true;
        }

        private boolean readLine(int lineKind) {
            int says = taken;
            if (!takeOnly(Word.WHEN) || !readTests(0) || !takeOnly(';')) {
                return false;
            }
            made.lineKind[made.lines] = lineKind;
            made.lineSays[made.lines] = says;
            made.lineEnd[made.lines] = codeLength;
            made.lines++;
            return true;
        }

        private boolean readWaterRule() {
            boolean holds = word == Word.HOLDS;
            advance();
            if (!takeRockNotYounger(0)) {
                return false;
            }
            if (holds) {
                made.holding |= 1 << taken;
            } else {
                made.tightOnes |= 1 << taken;
            }
            return takeOnly(';');
        }

        private boolean readSlopeRule() {
            boolean steep = word == Word.STEEP;
            if (!steep && word != Word.DRIFT) {
                return wrong(MISPLACED);
            }
            if (steep ? steepTold : driftTold) {
                return wrong(TOLD_AGAIN);
            }
            advance();
            if (!takeNumberWithin(0, 99)) {
                return false;
            }
            if (steep) {
                steepTold = true;
                made.steep = taken;
            } else {
                driftTold = true;
                made.drift = taken;
            }
            return takeOnly(';');
        }

        private boolean readRemain() {
            advance();
            if (kind == NUMBER && value < REMAINS && made.remainFrom[(int) value] != NONE) {
                return wrong(TOLD_AGAIN);
            }
            if (!takeNumberWithin(0, REMAINS - 1)) {
                return false;
            }
            int remain = taken;
            if (!takeOnly(Word.FROM) || !takeRockNotYounger(0)) {
                return false;
            }
            int first = taken;
            if (!takeOnly(Word.TO) || !takeRockNotYounger(first)) {
                return false;
            }
            made.remainFrom[remain] = first;
            made.remainTo[remain] = taken;
            return takeOnly(';');
        }

        private boolean emit(int sign) {
            if (codeLength < code.length) {
                code[codeLength] = sign;
                codeLength++;
            }
            return true;
        }

        private boolean readTests(int depth) {
            if (!readTest(depth)) {
                return false;
            }
            for (int n = 0; n <= TAPE && (word == Word.AND || word == Word.OR); n++) {
                int sign = word == Word.AND ? BOTH : EITHER;
                advance();
                if (!readTest(depth) || !emit(sign)) {
                    return false;
                }
            }
            return true;
        }

        private boolean readTest(int depth) {
            if (!readSum(depth)) {
                return false;
            }
            if (!isNext('<') && !isNext('=')) {
                return true;
            }
            int sign = isNext('<') ? LESS : EQUAL;
            advance();
            return readSum(depth) && emit(sign);
        }

        private boolean readSum(int depth) {
            if (!readFact(depth)) {
                return false;
            }
            for (int n = 0; n <= TAPE && (isNext('+') || isNext('-')); n++) {
                int sign = isNext('+') ? ADD : SUBTRACT;
                advance();
                if (!readFact(depth) || !emit(sign)) {
                    return false;
                }
            }
            return true;
        }

        /** Any fact within four others is one too many; a token that is none can't stand there at all. */
        private boolean readFact(int depth) {
            boolean plain = kind == NUMBER || word != null && word.fact != NONE;
            boolean negated = word == Word.NOT;
            if (!plain && !negated && !isNext('(')) {
                return wrong(MISPLACED);
            }
            if (depth >= NESTED) {
                return wrong(TOO_MANY);
            }
            if (plain) {
                emit(kind == NUMBER ? (int) value : -1 - word.fact);
                advance();
                return true;
            }
            advance();
            if (negated) {
                return readFact(depth + 1) && emit(NEGATE);
            }
            return readTests(depth + 1) && takeOnly(')');
        }
    }
}
