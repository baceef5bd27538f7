/** Each promise of the document by its number, in ordinary runs; edges and wrong inputs stand in the EdgeTests. */
public final class PromiseTest {
    private final Due due = new Due("PromiseTest");

    public static void main(String[] args) {
        PromiseTest test = new PromiseTest();
        test.promise1NewObject();
        test.promise2Token();
        test.promise3Remove();
        test.promise4Power();
        test.promise5Cut();
        test.promise6PutSendsToHomes();
        test.promise6PutLeavesHints();
        test.promise6PutClock();
        test.promise7GetFindsAndBrings();
        test.promise7GetPassesOverOlderOnes();
        test.promise7GetSeesHints();
        test.promise7GetContext();
        test.promise8Found();
        test.promise9Repaired();
        test.promise10HandOverHints();
        test.promise10HandOverKeys();
        test.promise10HandOverNeedsAllHomes();
        test.promise11CompareCountsParts();
        test.promise11CompareExchanges();
        test.promise11CompareOnlySharedKeys();
        test.promise12Home();
        test.promise13Targets();
        test.promise14Holds();
        test.promise15Count();
        test.promise16Hints();
        test.promise17Versions();
        test.promise18Version();
        test.promise19Context();
        test.takeKeepsWhatIsNewer();
        test.allVersionsMade();
        test.due.end();
    }

    private void promise1NewObject() {
        VersionRing ring = new VersionRing(2, 1, 1);
        due.is("1 versions()", 0, ring.versions());
        due.is("1 found(0)", -1, ring.found(0));
        due.is("1 repaired()", 0, ring.repaired());
        for (int position = 0; position < 16; position++) {
            due.no("1 remove(" + position + ")", ring.remove(position));
        }
        for (int node = 0; node < 5; node++) {
            due.is("1 hints(" + node + ")", 0, ring.hints(node));
            due.no("1 power(" + node + ", true)", ring.power(node, true));
            for (int key = 0; key < 32; key++) {
                due.is("1 count(" + node + ", " + key + ")", 0, ring.count(node, key));
                due.is("1 targets(" + node + ", " + key + ")", 0, ring.targets(node, key));
            }
            for (int context = 0; context < 4; context++) {
                due.is("1 context(" + context + ", " + node + ")", -1, ring.context(context, node));
            }
            for (int other = 0; other < 5; other++) {
                due.no("1 cut(" + node + ", " + other + ", false)", ring.cut(node, other, false));
            }
        }
    }

    private void promise2Token() {
        VersionRing ring = new VersionRing(0, 0, 0);
        due.is("2 home on an empty ring", -1, ring.home(0, 0));
        for (int position = 0; position < 16; position++) {
            due.yes("2 token at " + position, ring.token(position % 5, position));
            due.no("2 token again at " + position, ring.token(position % 5, position));
            due.no("2 another token at " + position, ring.token((position + 1) % 5, position));
        }
        for (int key = 0; key < 32; key++) {
            due.is("2 home(" + key + ", 0)", (5 * key + 3) % 16 % 5, ring.home(key, 0));
        }
    }

    private void promise3Remove() {
        VersionRing ring = new VersionRing(0, 0, 0);
        ring.token(4, 0);
        ring.token(3, 15);
        due.no("3 remove(7), free", ring.remove(7));
        due.is("3 home(0, 0)", 3, ring.home(0, 0));
        due.yes("3 remove(15)", ring.remove(15));
        due.no("3 remove(15) again", ring.remove(15));
        due.is("3 home(0, 0) behind the top", 4, ring.home(0, 0));
        due.yes("3 remove(0)", ring.remove(0));
        due.is("3 home(0, 0) on an empty ring", -1, ring.home(0, 0));
        due.yes("3 token(1, 15) where it is free again", ring.token(1, 15));
        due.is("3 home(0, 0) at last", 1, ring.home(0, 0));
    }

    private void promise4Power() {
        VersionRing ring = Rings.five(2, 0, 0);
        for (int node = 0; node < 5; node++) {
            due.yes("4 down", ring.power(node, false));
            due.is("4 put while down", -2, ring.put(node, 0, 1, -1));
            due.yes("4 up", ring.power(node, true));
            due.is("4 targets while up", 3, ring.targets(node, 0));
        }
    }

    private void promise5Cut() {
        VersionRing ring = Rings.five(2, 0, 0);
        due.yes("5 cut", ring.cut(4, 0, true));
        due.is("5 compare while cut", -2, ring.compare(0, 4));
        ring.put(4, 0, 1, -1);
        due.holds("5 a put past the cut line", ring, 0, 0, 1, 1, 2, 0);
        due.yes("5 mend from the other side", ring.cut(0, 4, false));
        due.is("5 compare", 1, ring.compare(0, 4));
        ring.power(1, false);
        due.yes("5 cut with a node down", ring.cut(0, 1, true));
        ring.power(1, true);
        due.is("5 the line stayed cut", -2, ring.compare(1, 0));
    }

    private void promise6PutSendsToHomes() {
        VersionRing ring = Rings.five(2, 0, 0);
        due.is("6 first put", 0, ring.put(4, 0, 70, -1));
        due.holds("6 all homes reached, the writer is none", ring, 0, 1, 1, 1, 0, 0);
        due.is("6 second put", 1, ring.put(4, 1, 71, -1));
        due.holds("6 another key", ring, 1, 1, 0, 0, 1, 1);
        VersionRing few = new VersionRing(2, 0, 0);
        few.token(2, 0);
        few.token(4, 1);
        few.power(2, false);
        due.is("6 put on a short list", 0, few.put(0, 0, 5, -1));
        due.holds("6 a list shorter than N has no stand-ins", few, 0, 0, 0, 0, 0, 1);
    }

    private void promise6PutLeavesHints() {
        VersionRing ring = Rings.five(2, 0, 0);
        ring.power(0, false);
        ring.cut(2, 4, true);
        due.is("6 put past two homes", 0, ring.put(4, 0, 1, -1));
        due.holds("6 two stand-ins", ring, 0, 0, 1, 0, 2, 2);
        ring.power(0, true);
        due.is("6 node 3 stands for home 0", 1, ring.handOver(3));
        due.holds("6 after node 3 handed over", ring, 0, 1, 1, 0, 0, 2);
        due.is("6 node 4 stands for home 2, still cut off", 0, ring.handOver(4));
        ring.cut(4, 2, false);
        due.is("6 node 4 stands for home 2", 1, ring.handOver(4));
        due.holds("6 at the end", ring, 0, 1, 1, 1, 0, 0);

        VersionRing apart = Rings.five(2, 0, 0);
        Rings.cutFrom(apart, 4, 0, 1, 2);
        due.is("6 put that reaches no home", 0, apart.put(4, 0, 1, -1));
        due.holds("6 all homes missed, two stand-ins", apart, 0, 0, 0, 0, 2, 2);
        due.is("6 node 3 stands for the first one", 1, apart.handOver(3));
        due.holds("6 the first home has it", apart, 0, 1, 0, 0, 0, 2);
        apart.cut(4, 0, false);
        due.is("6 node 4 does not stand for 0", 0, apart.handOver(4));
        apart.cut(4, 2, false);
        due.is("6 node 4 does not stand for 2", 0, apart.handOver(4));
        apart.cut(4, 1, false);
        due.is("6 node 4 stands for the second one", 1, apart.handOver(4));
        due.holds("6 the second home has it", apart, 0, 1, 1, 0, 0, 0);
    }

    private void promise6PutClock() {
        VersionRing ring = Rings.five(2, 0, 0);
        ring.put(1, 0, 10, -1);
        due.clock("6 no context", ring, 0, 0, 1, 0, 0, 0);
        ring.put(1, 0, 11, 3);
        due.clock("6 an empty context, the second write of node 1", ring, 1, 0, 2, 0, 0, 0);
        ring.put(1, 1, 12, -1);
        due.clock("6 another key counts for itself", ring, 2, 0, 1, 0, 0, 0);
        ring.put(2, 0, 13, -1);
        ring.get(0, 0, 3);
        ring.put(4, 0, 14, 3);
        due.clock("6 the clock of the context", ring, 4, 0, 2, 1, 0, 1);
        ring.put(1, 0, 15, -1);
        due.clock("6 the count of the writer goes on without a context", ring, 5, 0, 3, 0, 0, 0);
        ring.put(1, 0, 16, 3);
        due.clock("6 the writer's count beats that of the context", ring, 6, 0, 4, 1, 0, 0);
        due.is("6 the context stays as it is", 2, ring.context(3, 1));
    }

    private void promise7GetFindsAndBrings() {
        VersionRing ring = Rings.split();
        due.holds("7 split", ring, 0, 1, 0, 1, 0, 0);
        due.holds("7 split", ring, 1, 0, 1, 1, 0, 0);
        due.is("7 get through node 2", 2, ring.get(0, 0, 0));
        due.holds("7 node 0 was told", ring, 1, 1, 1, 1, 0, 0);
        due.holds("7 node 1 was not reached", ring, 0, 1, 0, 1, 0, 0);
        ring.cut(0, 1, false);
        due.is("7 a put that knows both", 2, ring.put(0, 0, 12, 0));
        due.is("7 get of the one that passed them", 1, ring.get(2, 0, 0));
        due.is("7 get by a node that is no target", 1, ring.get(4, 0, 0));
        due.is("7 get of another key at the same position", 0, ring.get(2, 16, 0));
        due.holds("7 a target that is no home takes nothing", ring, 2, 1, 1, 1, 0, 0);
    }

    private void promise7GetPassesOverOlderOnes() {
        VersionRing ring = Rings.five(2, 0, 0);
        ring.put(0, 0, 10, -1);
        ring.power(1, false);
        ring.get(0, 0, 0);
        ring.put(0, 0, 11, 0);
        ring.power(1, true);
        due.holds("7 node 1 has the older one", ring, 0, 0, 1, 0, 0, 0);
        due.is("7 the older one is not found", 1, ring.get(1, 0, 1));
        due.is("7 but the newer one", 1, ring.found(0));
        due.holds("7 which takes its place", ring, 0, 0, 0, 0, 0, 0);
        Rings.cutFrom(ring, 0, 1, 2, 3, 4);
        ring.put(1, 16, 12, -1);
        due.is("7 a node alone does not find what others have", 0, ring.get(0, 16, 2));
    }

    private void promise7GetSeesHints() {
        VersionRing ring = Rings.five(2, 0, 0);
        Rings.cutFrom(ring, 4, 0, 1, 2);
        ring.put(4, 0, 10, -1);
        due.holds("7 hints alone", ring, 0, 0, 0, 0, 2, 2);
        due.is("7 homes reached, so no stand-in is asked", 0, ring.get(3, 0, 0));
        due.is("7 get from hints, for whichever node", 1, ring.get(4, 0, 0));
        due.holds("7 stand-ins take nothing", ring, 0, 0, 0, 0, 2, 2);
        ring.power(2, false);
        due.is("7 a stand-in beside homes", 1, ring.get(3, 0, 0));
        due.holds("7 the reached homes were told, the hint stays", ring, 0, 1, 1, 0, 2, 2);
        due.is("7 repaired()", 2, ring.repaired());
        ring.put(0, 1, 11, -1);
        due.is("7 hints and versions of other keys are not found", 1, ring.get(4, 0, 0));
    }

    private void promise7GetContext() {
        VersionRing ring = Rings.split();
        for (int context = 0; context < 4; context++) {
            due.is("7 get", 2, ring.get(2, 0, context));
            due.is("7 greatest count", 1, ring.context(context, 0));
            due.is("7 greatest count", 1, ring.context(context, 1));
            due.is("7 greatest count", 0, ring.context(context, 2));
        }
        due.is("7 nothing found", 0, ring.get(2, 5, 2));
        due.is("7 the context is 0 then", 0, ring.context(2, 0));
        due.is("7 and has the other key", -1, ring.put(2, 0, 1, 2));
        due.is("7 the others stay", 1, ring.context(1, 0));
        due.is("7 and their keys", 2, ring.put(2, 5, 1, 2));
    }

    private void promise8Found() {
        VersionRing ring = Rings.split();
        due.is("8 before any get", -1, ring.found(0));
        ring.get(2, 0, 0);
        due.is("8 found(0)", 0, ring.found(0));
        due.is("8 found(1)", 1, ring.found(1));
        ring.put(2, 0, 12, 0);
        due.is("8 a put changes nothing about it", 1, ring.found(1));
        ring.get(2, 0, 9);
        due.is("8 nor does a refused get", 1, ring.found(1));
        ring.get(2, 0, 0);
        due.is("8 the next get", 2, ring.found(0));
        due.is("8 it found one", -1, ring.found(1));
        ring.get(2, 5, 1);
        due.is("8 a get that found nothing", -1, ring.found(0));
    }

    private void promise9Repaired() {
        VersionRing ring = Rings.split();
        due.is("9 before any get", 0, ring.repaired());
        for (int node = 0; node < 2; node++) {
            ring.cut(node, 3, false);
        }
        due.is("9 get from outside", 2, ring.get(3, 0, 0));
        due.is("9 each of two nodes got one", 2, ring.repaired());
        due.is("9 a refused get", -1, ring.get(3, 0, 4));
        due.is("9 leaves the number", 2, ring.repaired());
        ring.get(3, 0, 0);
        due.is("9 nothing to repair any more", 0, ring.repaired());
        ring.power(1, false);
        due.is("9 put past node 1", 2, ring.put(0, 0, 12, 0));
        ring.power(1, true);
        ring.get(3, 0, 0);
        due.is("9 one version that takes the place of two is one case", 1, ring.repaired());
        due.is("9 node 1 has it alone", 1, ring.count(1, 0));
        ring.power(0, false);
        ring.get(3, 9, 0);
        due.is("9 a get that found nothing", 0, ring.repaired());
    }

    private void promise10HandOverHints() {
        VersionRing ring = Rings.five(2, 0, 0);
        ring.power(0, false);
        ring.put(1, 0, 10, -1);
        ring.get(1, 0, 0);
        ring.put(1, 0, 11, 0);
        ring.put(2, 0, 12, -1);
        due.is("10 three hints", 3, ring.hints(3));
        due.is("10 home 0 is down", 0, ring.handOver(3));
        ring.power(0, true);
        ring.cut(0, 3, true);
        due.is("10 home 0 is cut off", 0, ring.handOver(3));
        due.is("10 hints stay", 3, ring.hints(3));
        ring.cut(0, 3, false);
        due.is("10 all three are gone", 3, ring.handOver(3));
        due.is("10 no hints left", 0, ring.hints(3));
        due.holds("10 the older one did not stay", ring, 0, 0, 0, 0, 0, 0);
        due.is("10 two side by side", 2, ring.count(0, 0));
        due.is("10 nothing more", 0, ring.handOver(3));

        VersionRing late = Rings.five(2, 0, 0);
        late.power(0, false);
        late.put(1, 0, 10, -1);
        late.power(0, true);
        late.get(1, 0, 0);
        late.put(1, 0, 11, 0);
        due.is("10 a hint that comes too late is gone too", 1, late.handOver(3));
        due.holds("10 but it is not taken", late, 0, 0, 0, 0, 0, 0);

        VersionRing moved = Rings.five(2, 0, 0);
        moved.power(0, false);
        moved.put(1, 0, 10, -1);
        moved.power(0, true);
        moved.remove(3);
        due.is("10 a hint for who is a home no more is handed over", 1, moved.handOver(3));
        due.holds("10 and taken", moved, 0, 1, 1, 1, 0, 0);
    }

    private void promise10HandOverKeys() {
        VersionRing ring = Rings.five(2, 0, 0);
        ring.put(0, 0, 10, -1);
        ring.put(1, 0, 11, -1);
        ring.put(0, 16, 12, -1);
        ring.put(0, 1, 13, -1);
        due.is("10 a home keeps its versions", 0, ring.handOver(0));
        ring.remove(3);
        due.is("10 home is now 1, 2, 3", 3, ring.home(0, 2));
        due.is("10 four versions of three keys leave", 4, ring.handOver(0));
        due.holds("10 handed over", ring, 0, 0, 1, 1, 1, 0);
        due.holds("10 handed over", ring, 1, 0, 1, 1, 1, 0);
        due.holds("10 handed over", ring, 2, 0, 1, 1, 1, 0);
        due.holds("10 the homes of key 1 are now 3, 4, 1", ring, 3, 0, 1, 0, 1, 1);
    }

    private void promise10HandOverNeedsAllHomes() {
        VersionRing ring = Rings.five(2, 0, 0);
        ring.put(0, 0, 10, -1);
        ring.remove(3);
        ring.cut(0, 3, true);
        due.is("10 one home is cut off", 0, ring.handOver(0));
        due.holds("10 all stays", ring, 0, 1, 1, 1, 0, 0);
        ring.cut(0, 3, false);
        ring.power(1, false);
        due.is("10 one home is down", 0, ring.handOver(0));
        for (int position = 5; position <= 11; position += 2) {
            ring.remove(position);
        }
        due.is("10 no homes", 0, ring.handOver(0));
        due.is("10 what it has stays", 1, ring.count(0, 0));
        ring.token(4, 9);
        due.is("10 one home that is reached", 1, ring.handOver(0));
        due.holds("10 at the end", ring, 0, 0, 1, 1, 0, 1);

        VersionRing beside = Rings.five(2, 0, 0);
        beside.put(0, 0, 10, -1);
        beside.remove(3);
        beside.cut(0, 4, true);
        due.is("10 who is listed behind the homes need not be reached", 1, beside.handOver(0));

        VersionRing passed = Rings.five(2, 0, 0);
        passed.put(0, 0, 10, -1);
        passed.get(1, 0, 0);
        passed.remove(3);
        passed.put(1, 0, 11, 0);
        due.is("10 a version that no home takes leaves all the same", 1, passed.handOver(0));
        due.holds("10 it is nowhere", passed, 0, 0, 0, 0, 0, 0);
    }

    private void promise11CompareCountsParts() {
        int[] keys = {0, 1, 2, 16, 31};
        for (int key : keys) {
            VersionRing ring = Rings.missing(key);
            due.is("11 one key, " + key, 11, ring.compare(0, 1));
            due.is("11 then they agree", 1, ring.compare(0, 1));
        }
        due.is("11 two keys of one pair", 11, Rings.missing(2, 3).compare(1, 0));
        due.is("11 two keys of one four", 13, Rings.missing(1, 2).compare(0, 1));
        due.is("11 two keys of different halves", 19, Rings.missing(0, 31).compare(0, 1));
        due.is("11 the ends of both halves", 19, Rings.missing(15, 16).compare(0, 1));
        due.is("11 all keys", 63, Rings.missing(Call.range(0, 31)).compare(0, 1));
        due.is("11 no key", 1, Rings.missing().compare(0, 1));
    }

    private void promise11CompareExchanges() {
        VersionRing ring = Rings.split();
        ring.cut(0, 1, false);
        due.is("11 both miss one", 11, ring.compare(1, 0));
        due.is("11 node 0 has both", 2, ring.count(0, 0));
        due.is("11 node 1 has both", 2, ring.count(1, 0));
        ring.get(0, 0, 0);
        ring.power(1, false);
        ring.put(0, 0, 12, 0);
        ring.power(1, true);
        due.is("11 node 1 has older ones", 11, ring.compare(1, 0));
        due.holds("11 the newer one wins on both sides", ring, 2, 1, 1, 1, 0, 0);
        due.holds("11 the older one does not come back", ring, 0, 0, 0, 0, 0, 0);

        VersionRing hinted = Rings.five(2, 0, 0);
        hinted.power(0, false);
        hinted.put(1, 0, 10, -1);
        hinted.remove(3);
        due.is("11 who has a hint alone has not the version", 11, hinted.compare(3, 1));
        due.holds("11 it has both now", hinted, 0, 0, 1, 1, 3, 0);
    }

    private void promise11CompareOnlySharedKeys() {
        VersionRing ring = Rings.five(2, 0, 0);
        ring.put(0, 0, 10, -1);
        due.is("11 node 3 is no home of key 0", 1, ring.compare(0, 3));
        due.is("11 neither is node 4", 1, ring.compare(3, 4));
        ring.remove(5);
        due.is("11 it is now", 11, ring.compare(0, 3));
        due.holds("11 it has it now", ring, 0, 1, 1, 1, 1, 0);
        due.is("11 node 1 is a home no more", 1, ring.compare(1, 4));
    }

    private void promise12Home() {
        VersionRing ring = Rings.five(2, 0, 0);
        int[] ofKey1 = {3, 4, 0};
        for (int k = 0; k < 3; k++) {
            due.is("12 home(0, " + k + ")", k, ring.home(0, k));
            due.is("12 home(1, " + k + ")", ofKey1[k], ring.home(1, k));
        }
        ring.power(0, false);
        due.is("12 homes may be down", 0, ring.home(0, 0));
        ring.token(2, 4);
        due.is("12 a node is met where its first token is", 2, ring.home(0, 1));
        due.is("12 and only once", 1, ring.home(0, 2));
        VersionRing few = new VersionRing(2, 0, 0);
        few.token(3, 2);
        due.is("12 a ring of one", 3, few.home(0, 0));
        due.is("12 has no second home", -1, few.home(0, 1));
    }

    private void promise13Targets() {
        VersionRing ring = Rings.five(2, 0, 0);
        due.is("13 N at most", 3, ring.targets(4, 0));
        ring.cut(4, 0, true);
        ring.power(1, false);
        due.is("13 stand-ins count, the node itself too", 3, ring.targets(4, 0));
        ring.cut(4, 2, true);
        due.is("13 two are left", 2, ring.targets(4, 0));
        ring.cut(4, 3, true);
        due.is("13 the node itself", 1, ring.targets(4, 0));
        ring.remove(11);
        due.is("13 none", 0, ring.targets(4, 0));
        due.is("13 a node that is down", 0, ring.targets(1, 0));
    }

    private void promise14Holds() {
        VersionRing ring = Rings.five(2, 0, 0);
        due.is("14 no version yet", -1, ring.holds(0, 0));
        ring.power(0, false);
        ring.put(1, 0, 10, -1);
        due.holds("14 has and hints", ring, 0, 0, 1, 1, 2, 0);
        ring.remove(3);
        ring.get(1, 0, 0);
        due.holds("14 both at once", ring, 0, 0, 1, 1, 3, 0);
    }

    private void promise15Count() {
        VersionRing ring = Rings.split();
        due.is("15 two side by side", 2, ring.count(2, 0));
        due.is("15 one", 1, ring.count(0, 0));
        due.is("15 another key", 0, ring.count(2, 16));
        ring.power(0, false);
        ring.put(2, 0, 12, -1);
        due.is("15 hints are none", 0, ring.count(3, 0));
        due.is("15 a node that is down", 1, ring.count(0, 0));
    }

    private void promise16Hints() {
        VersionRing ring = Rings.five(2, 0, 0);
        ring.power(0, false);
        for (int i = 0; i < 40; i++) {
            due.is("16 hints so far", i, ring.hints(3));
            ring.put(1, 0, i, -1);
        }
        due.is("16 40 hints", 40, ring.hints(3));
        due.is("16 a home has none", 0, ring.hints(1));
        ring.power(3, false);
        due.is("16 a node that is down keeps them", 40, ring.hints(3));
    }

    private void promise17Versions() {
        VersionRing ring = Rings.five(2, 0, 2);
        for (int i = 0; i < 40; i++) {
            due.is("17 versions()", i, ring.versions());
            ring.put(i % 5, i % 32, i, -1);
        }
        ring.put(0, 0, 1, -1);
        due.is("17 40 at most", 40, ring.versions());
    }

    private void promise18Version() {
        VersionRing ring = Rings.five(2, 0, 0);
        due.is("18 no version yet", 0, ring.version(0, 6));
        ring.put(3, 31, -77, -1);
        due.is("18 its key", 31, ring.version(0, 5));
        due.is("18 its value", -77, ring.version(0, 6));
        due.clock("18 its clock", ring, 0, 0, 0, 0, 1, 0);
        ring.get(0, 31, 0);
        ring.put(0, 31, 5, 0);
        due.is("18 a version that no node has stays one", -77, ring.version(0, 6));
    }

    private void promise19Context() {
        VersionRing ring = Rings.split();
        due.is("19 an empty context", -1, ring.context(0, 0));
        ring.put(2, 0, 12, 0);
        due.is("19 a put leaves it empty", -1, ring.context(0, 0));
        ring.get(2, 0, 0);
        due.knows("19 behind a get", ring, 0, 1, 1, 1, 0, 0);
        due.knows("19 another context", ring, 1, -1, -1, -1, -1, -1);
    }

    private void takeKeepsWhatIsNewer() {
        VersionRing ring = Rings.five(0, 0, 0);
        ring.put(0, 0, 10, -1);
        ring.put(1, 0, 11, -1);
        due.is("take: side by side", 2, ring.count(0, 0));
        ring.put(0, 0, 12, -1);
        due.is("take: a newer one of the same writer takes the place of its older one alone", 2, ring.count(0, 0));
        due.is("take: the older one left", 0, ring.holds(0, 0));
        due.is("take: the other one stayed", 1, ring.holds(0, 1));
        ring.put(0, 16, 13, -1);
        due.is("take: another key's clock says nothing", 2, ring.count(0, 0));
        due.is("take: nor the other way", 1, ring.count(0, 16));
    }

    private void allVersionsMade() {
        VersionRing ring = Rings.five(2, 0, 0);
        ring.cut(0, 1, true);
        for (int i = 0; i < 40; i++) {
            ring.put(i % 2, 0, i, -1);
        }
        due.is("full: hints of node 3 for both", 40, ring.hints(3));
        ring.cut(0, 1, false);
        due.is("full: the latest of each writer", 2, ring.get(2, 0, 0));
        due.is("full: found(0)", 38, ring.found(0));
        due.is("full: found(1)", 39, ring.found(1));
        due.is("full: found(2)", -1, ring.found(2));
        due.is("full: the context", 20, ring.context(0, 1));
        due.is("full: compare", 1, ring.compare(0, 1));
        due.is("full: handOver", 40, ring.handOver(3));
        ring.remove(7);
        due.is("full: handOver of node 2, a home no more", 2, ring.handOver(2));
        due.holds("full: at the end", ring, 39, 1, 1, 0, 1, 0);
    }
}
