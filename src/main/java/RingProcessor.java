/**
 * A processor with segments, pages and eight rings: addresses by pointers and
 * chains of indirect words that only raise the ring, brackets for each kind of
 * access, gates, copies of descriptors that stay until they are cleared, faults
 * and interrupts from which it goes on.
 *
 * A method that may end in a fault answers the fault's number, NO_FAULT if there
 * was none; one that answers an address or a word answers -1 less the fault.
 * Registers change only behind the last point where an instruction can fault,
 * so nothing has to be undone.
 */
public final class RingProcessor {
    public static final int NONE = -1;

    /** Also the mask of all numbers 0 .. 4095: sums of addresses wrap around by it. */
    private static final int LAST_ADDRESS = 4095;
    private static final long WORD_MASK = (1L << 36) - 1;
    private static final long SIGN = 1L << 35;
    private static final long THERE = 1L << 35;
    private static final long PAGED = 1L << 34;
    private static final long READABLE = 1L << 9;
    private static final long WRITABLE = 1L << 10;
    private static final long EXECUTABLE = 1L << 11;
    private static final long USED = 1L << 34;
    private static final long CHANGED = 1L << 33;
    private static final long GOES_ON = 1L << 20;
    private static final long BY_POINTER = 1L << 29;
    private static final long INDIRECT = 1L << 26;

    private static final int PAGE_SIZE = 64;
    private static final int LAST_SEGMENT = 15;
    private static final int LAST_RING = 7;
    private static final int LAST_REGISTER = 10;
    private static final int LAST_INTERRUPT = 3;
    private static final int MOST_STEPS = 100;
    private static final int MOST_INDIRECT_WORDS = 5;
    private static final int FAULT_ENTRIES = 16;

    private static final int READ = 0;
    private static final int WRITE = 1;
    private static final int EXECUTE = 2;

    private static final int NO_FAULT = 0;
    private static final int NOT_THERE = 1;
    private static final int PAGE_NOT_THERE = 2;
    private static final int ABOVE_BOUND = 3;
    private static final int NO_ACCESS = 4;
    private static final int WRONG_RING = 5;
    private static final int ILLEGAL = 6;
    private static final int NOT_RING_0 = 7;
    private static final int FIRST_INTERRUPT = 8;

    private static final int IN_SAME_SEGMENT = 0;
    private static final int OF_ITS_OWN = 1;
    private static final int FROM_POINTER = 2;

    private static final int NOTHING = 0;
    private static final int STA = 2;
    private static final int ADA = 3;
    private static final int SBA = 4;
    private static final int MPA = 5;
    private static final int ANA = 6;
    private static final int ORA = 7;
    private static final int ERA = 8;
    private static final int LDQ = 9;
    private static final int STQ = 10;
    private static final int AOS = 11;
    private static final int LDX = 12;
    private static final int STX = 16;
    private static final int TRA = 20;
    private static final int TZE = 21;
    private static final int TNZ = 22;
    private static final int TMI = 23;
    private static final int EPP = 24;
    private static final int SPR = 28;
    private static final int EAA = 32;
    private static final int EXQ = 33;
    private static final int CALL = 34;
    private static final int RTN = 35;
    private static final int CLEAR = 36;
    private static final int RCU = 37;
    private static final int STOP = 38;

    private final Store store = new Store();
    private long a;
    private long q;
    private final int[] indexes = new int[4];
    private final Pointer[] pointers = {new Pointer(), new Pointer(), new Pointer(), new Pointer()};
    /** Its ring is the RING. */
    private final Pointer counter = new Pointer();
    /** What an instruction reaches for: itself, then the words of its address; its ring is the effective one. */
    private final Pointer target = new Pointer();
    private final Pointer savedCounter = new Pointer();
    private boolean hasSaved;
    private boolean handles;
    private boolean stopped;
    private int latestFault;
    private int faultSegment;
    private int faultWord;
    private int asked;

    public RingProcessor() {
    }

    public void poke(int address, long v) throws IndexOutOfBoundsException {
        if (address < 0 || address > LAST_ADDRESS) {
            throw new IndexOutOfBoundsException();
        }
        store.words[address] = v & WORD_MASK;
    }

    public long peek(int address) throws IndexOutOfBoundsException {
        if (address < 0 || address > LAST_ADDRESS) {
            throw new IndexOutOfBoundsException();
        }
        return store.words[address];
    }

    public void set(int k, long v) throws IndexOutOfBoundsException {
        if (k < 0 || k > LAST_REGISTER) {
            throw new IndexOutOfBoundsException();
        }
        if (k == 0) {
            a = v & WORD_MASK;
        } else if (k == 1) {
            q = v & WORD_MASK;
        } else if (k <= 5) {
            indexes[k - 2] = field(v, 0, 12);
        } else if (k <= 9) {
            pointers[k - 6].takeFrom(v);
        } else {
            counter.takeFrom(v);
        }
    }

    public long get(int k) throws IndexOutOfBoundsException {
        if (k < 0 || k > LAST_REGISTER) {
            throw new IndexOutOfBoundsException();
        }
        if (k == 0) {
            return a;
        }
        if (k == 1) {
            return q;
        }
        if (k <= 5) {
            return indexes[k - 2];
        }
        return k <= 9 ? pointers[k - 6].asWord() : counter.asWord();
    }

    public int run(int n) throws IllegalArgumentException {
        if (n < 0 || n > MOST_STEPS) {
            throw new IllegalArgumentException();
        }
        for (int done = 0; done < n; done++) {
            if (stopped) {
                return done;
            }
            int fault = takeInterrupt();
            if (fault == NO_FAULT) {
                fault = perform();
            }
            if (fault != NO_FAULT) {
                enter(fault);
            }
        }
        return n;
    }

    public void go() {
        stopped = false;
        handles = false;
    }

    public void interrupt(int k) throws IndexOutOfBoundsException {
        if (k < 0 || k > LAST_INTERRUPT) {
            throw new IndexOutOfBoundsException();
        }
        asked |= 1 << k;
    }

    public int state(int what) {
        switch (what) {
            case 0:
                return stopped ? 1 : 0;
            case 1:
                return handles ? 1 : 0;
            case 2:
                return latestFault;
            case 3:
                return faultSegment;
            case 4:
                return faultWord;
            case 5:
                return asked;
            default:
                return NONE;
        }
    }

    public long saved() {
        return hasSaved ? savedCounter.asWord() : 0;
    }

    public int copy(int k, int what) {
        switch (what) {
            case 0:
                return store.descriptors.nameAt(k);
            case 1:
                return store.pages.nameAt(k);
            default:
                return NONE;
        }
    }

    public int reach(int segment, int word, int ring, int way)
            throws IndexOutOfBoundsException, IllegalArgumentException {
        if (segment < 0 || segment > LAST_SEGMENT) {
            throw new IndexOutOfBoundsException();
        }
        if (ring < 0 || ring > LAST_RING || word < 0 || word > LAST_ADDRESS || way < READ || way > EXECUTE) {
            throw new IllegalArgumentException();
        }
        return store.locate(segment, word, ring, way, false);
    }

    /** The fault of the interrupt that comes instead of an instruction, NO_FAULT if none does. */
    private int takeInterrupt() {
        if (handles || asked == 0) {
            return NO_FAULT;
        }
        int lowest = 0;
        while (lowest < LAST_INTERRUPT && (asked & 1 << lowest) == 0) {
            lowest++;
        }
        asked &= ~(1 << lowest);
        return FIRST_INTERRUPT + lowest;
    }

    private void enter(int fault) {
        Pointer place = fault <= NO_ACCESS ? target : counter;
        latestFault = fault;
        faultSegment = place.segment;
        faultWord = place.word;
        if (handles) {
            stopped = true;
            return;
        }
        savedCounter.become(counter);
        hasSaved = true;
        handles = true;
        counter.segment = 0;
        counter.word = FAULT_ENTRIES + fault;
        counter.ring = 0;
    }

    private int perform() {
        target.become(counter);
        long instruction = store.read(target, EXECUTE);
        if (instruction < 0) {
            return faultOf(instruction);
        }
        int what = field(instruction, 30, 6);
        if (what == NOTHING || what == EXQ || what > RTN) {
            return performWithoutAddress(what);
        }
        startAddress(instruction);
        if ((instruction & INDIRECT) != 0) {
            int fault = followChain();
            if (fault != NO_FAULT) {
                return fault;
            }
        }
        return performAtAddress(what);
    }

    private void startAddress(long instruction) {
        int y = field(instruction, 0, 12);
        if ((instruction & BY_POINTER) != 0) {
            Pointer base = pointers[field(instruction, 27, 2)];
            target.segment = base.segment;
            target.word = sum(base.word, y);
            target.ring = Math.max(counter.ring, base.ring);
        } else {
            target.segment = counter.segment;
            target.word = y;
            target.ring = counter.ring;
        }
        int x = field(instruction, 24, 2);
        if (x != 0) {
            target.word = sum(target.word, indexes[x]);
        }
    }

    private int followChain() {
        for (int count = 0; count < MOST_INDIRECT_WORDS; count++) {
            long word = store.read(target, READ);
            if (word < 0) {
                return faultOf(word);
            }
            target.ring = Math.max(target.ring, store.descriptor.r1);
            if (!followWord(word)) {
                return ILLEGAL;
            }
            if ((word & GOES_ON) == 0) {
                return NO_FAULT;
            }
        }
        return ILLEGAL;
    }

    /** False if there is no such kind of pointer word. */
    private boolean followWord(long word) {
        int effectiveRing = target.ring;
        switch (field(word, 33, 3)) {
            case IN_SAME_SEGMENT:
                target.word = field(word, 0, 12);
                return true;
            case OF_ITS_OWN:
                target.takeFrom(word);
                break;
            case FROM_POINTER:
                target.become(pointers[field(word, 18, 2)]);
                target.word = sum(target.word, field(word, 0, 12));
                break;
            default:
                return false;
        }
        target.ring = Math.max(effectiveRing, target.ring);
        return true;
    }

    private int performWithoutAddress(int what) {
        switch (what) {
            case NOTHING:
                return advance();
            case EXQ:
                return exchange();
            case CLEAR:
            case RCU:
            case STOP:
                return counter.ring == 0 ? performInRing0(what) : NOT_RING_0;
            default:
                return ILLEGAL;
        }
    }

    private int exchange() {
        long old = a;
        a = q;
        q = old;
        return advance();
    }

    private int performInRing0(int what) {
        if (what == RCU) {
            return goBack();
        }
        if (what == CLEAR) {
            store.descriptors.clear();
            store.pages.clear();
        } else {
            stopped = true;
        }
        return advance();
    }

    private int goBack() {
        if (!handles) {
            return ILLEGAL;
        }
        handles = false;
        counter.become(savedCounter);
        return NO_FAULT;
    }

    private int performAtAddress(int what) {
        // The four of LDX, STX, EPP and SPR begin at multiples of four.
        int k = what & 3;
        switch (what) {
            case STA:
                return put(a);
            case STQ:
                return put(q);
            case AOS:
                return addOne();
            case STX, STX + 1, STX + 2, STX + 3:
                return put(indexes[k]);
            case SPR, SPR + 1, SPR + 2, SPR + 3:
                return put(pointers[k].asWord());
            case TRA:
                return transfer(true);
            case TZE:
                return transfer(a == 0);
            case TNZ:
                return transfer(a != 0);
            case TMI:
                return transfer((a & SIGN) != 0);
            case EPP, EPP + 1, EPP + 2, EPP + 3:
                pointers[k].become(target);
                return advance();
            case EAA:
                a = target.word;
                return advance();
            case CALL:
                return callAddress();
            case RTN:
                return returnByWord();
            default:
                return load(what);
        }
    }

    private int load(int what) {
        long word = store.read(target, READ);
        if (word < 0) {
            return faultOf(word);
        }
        switch (what) {
            case LDX, LDX + 1, LDX + 2, LDX + 3:
                indexes[what & 3] = field(word, 0, 12);
                break;
            case LDQ:
                q = word;
                break;
            default:
                a = combined(what, word) & WORD_MASK;
        }
        return advance();
    }

    private long combined(int what, long word) {
        switch (what) {
            case ADA:
                return a + word;
            case SBA:
                return a - word;
            case MPA:
                return a * word;
            case ANA:
                return a & word;
            case ORA:
                return a | word;
            case ERA:
                return a ^ word;
            default: // LDA
                return word;
        }
    }

    private int addOne() {
        long word = store.read(target, READ);
        if (word < 0) {
            return faultOf(word);
        }
        int fault = store.write(target, (word + 1) & WORD_MASK);
        return fault == NO_FAULT ? advance() : fault;
    }

    private int put(long word) {
        int fault = store.write(target, word);
        return fault == NO_FAULT ? advance() : fault;
    }

    private int transfer(boolean isTaken) {
        if (!isTaken) {
            return advance();
        }
        if (target.ring != counter.ring) {
            return WRONG_RING;
        }
        counter.become(target);
        return NO_FAULT;
    }

    private int callAddress() {
        Descriptor called = store.lookForDescriptor(target.segment, true);
        if (!called.isThere) {
            return NOT_THERE;
        }
        if (!called.mayBeExecuted) {
            return NO_ACCESS;
        }
        int ring = called.ringOfCall(target.word, target.ring);
        if (ring == NONE) {
            return WRONG_RING;
        }
        advance();
        pointers[0].become(counter);
        counter.become(target);
        counter.ring = ring;
        return NO_FAULT;
    }

    private int returnByWord() {
        long word = store.read(target, READ);
        if (word < 0) {
            return faultOf(word);
        }
        if (field(word, 33, 3) != OF_ITS_OWN) {
            return ILLEGAL;
        }
        int leastRing = Math.max(counter.ring, target.ring);
        counter.takeFrom(word);
        counter.ring = Math.max(leastRing, counter.ring);
        return NO_FAULT;
    }

    private int advance() {
        counter.word = sum(counter.word, 1);
        return NO_FAULT;
    }

    private static int faultOf(long answer) {
        return (int) (-1 - answer);
    }

    private static int sum(int address, int more) {
        return (address + more) & LAST_ADDRESS;
    }

    private static int field(long word, int lowestBit, int bits) {
        return (int) (word >> lowestBit) & ((1 << bits) - 1);
    }

    private static final class Pointer {
        int segment;
        int word;
        int ring;

        void become(Pointer other) {
            segment = other.segment;
            word = other.word;
            ring = other.ring;
        }

        void takeFrom(long pointerWord) {
            segment = field(pointerWord, 24, 4);
            word = field(pointerWord, 0, 12);
            ring = field(pointerWord, 21, 3);
        }

        long asWord() {
            return (long) OF_ITS_OWN << 33 | (long) segment << 24 | (long) ring << 21 | word;
        }
    }

    private static final class Descriptor {
        boolean isThere;
        boolean isPaged;
        int base;
        int bound;
        int r1;
        int r2;
        int r3;
        boolean mayBeRead;
        boolean mayBeWritten;
        boolean mayBeExecuted;
        int gates;

        void become(long first, long second) {
            isThere = (first & THERE) != 0;
            isPaged = (first & PAGED) != 0;
            base = (int) first & LAST_ADDRESS;
            bound = (int) (first >> 12) & LAST_ADDRESS;
            r1 = (int) second & LAST_RING;
            r2 = (int) (second >> 3) & LAST_RING;
            r3 = (int) (second >> 6) & LAST_RING;
            mayBeRead = (second & READABLE) != 0;
            mayBeWritten = (second & WRITABLE) != 0;
            mayBeExecuted = (second & EXECUTABLE) != 0;
            gates = (int) (second >> 12) & LAST_ADDRESS;
        }

        /** All that can be said against reaching a word, but for its page. */
        int refusal(int word, int ring, int way) {
            if (!isThere) {
                return NOT_THERE;
            }
            if (word > bound) {
                return ABOVE_BOUND;
            }
            boolean isGranted;
            if (way == READ) {
                isGranted = mayBeRead && ring <= r2;
            } else if (way == WRITE) {
                isGranted = mayBeWritten && ring <= r1;
            } else {
                isGranted = mayBeExecuted && ring >= r1 && ring <= r2;
            }
            return isGranted ? NO_FAULT : NO_ACCESS;
        }

        /** The ring in which a call of a word goes on, NONE if there is none. */
        int ringOfCall(int word, int ring) {
            if (ring >= r1 && ring <= r2) {
                return ring;
            }
            return ring > r2 && ring <= r3 && word < gates ? r2 : NONE;
        }
    }

    /** The copy used latest stands first. A page's word has no second word. */
    private static final class Copies {
        private static final int PLACES = 4;
        final int[] names = new int[PLACES];
        final long[] firsts = new long[PLACES];
        final long[] seconds = new long[PLACES];
        int count;

        void clear() {
            count = 0;
        }

        int nameAt(int place) {
            return place >= 0 && place < count ? names[place] : NONE;
        }

        int placeOf(int name) {
            for (int place = 0; place < count; place++) {
                if (names[place] == name) {
                    return place;
                }
            }
            return NONE;
        }

        /** Behind all others, so that the one used least lately goes if none is empty. */
        int add(int name, long first, long second) {
            if (count < PLACES) {
                count++;
            }
            int place = count - 1;
            names[place] = name;
            firsts[place] = first;
            seconds[place] = second;
            return place;
        }

        void moveToFront(int place) {
            int name = names[place];
            long first = firsts[place];
            long second = seconds[place];
            for (int k = place; k > 0; k--) {
                names[k] = names[k - 1];
                firsts[k] = firsts[k - 1];
                seconds[k] = seconds[k - 1];
            }
            names[0] = name;
            firsts[0] = first;
            seconds[0] = second;
        }
    }

    private static final class Store {
        final long[] words = new long[LAST_ADDRESS + 1];
        final Copies descriptors = new Copies();
        final Copies pages = new Copies();
        /** The one that was looked for latest. */
        final Descriptor descriptor = new Descriptor();

        long read(Pointer where, int way) {
            int place = locate(where.segment, where.word, where.ring, way, true);
            return place < 0 ? place : words[place];
        }

        int write(Pointer where, long word) {
            int place = locate(where.segment, where.word, where.ring, WRITE, true);
            if (place < 0) {
                return faultOf(place);
            }
            if (descriptor.isPaged) {
                markChanged(where.word / PAGE_SIZE);
            }
            words[place] = word;
            return NO_FAULT;
        }

        /** The page was looked for just now, so that its copy stands first. */
        private void markChanged(int page) {
            if ((pages.firsts[0] & CHANGED) == 0) {
                words[sum(descriptor.base, page)] |= CHANGED;
                pages.firsts[0] |= CHANGED;
            }
        }

        /** Without a use (for a caller who only asks) copies and memory stay as they are. */
        int locate(int segment, int word, int ring, int way, boolean isUse) {
            lookForDescriptor(segment, isUse);
            int fault = descriptor.refusal(word, ring, way);
            if (fault != NO_FAULT) {
                return -1 - fault;
            }
            if (!descriptor.isPaged) {
                return sum(descriptor.base, word);
            }
            long page = lookForPage(segment, word / PAGE_SIZE, isUse);
            if ((page & THERE) == 0) {
                return -1 - PAGE_NOT_THERE;
            }
            return (int) (page % PAGE_SIZE) * PAGE_SIZE + word % PAGE_SIZE;
        }

        Descriptor lookForDescriptor(int segment, boolean isUse) {
            int place = descriptors.placeOf(segment);
            if (place != NONE) {
                descriptor.become(descriptors.firsts[place], descriptors.seconds[place]);
            } else {
                long first = words[2 * segment];
                long second = words[2 * segment + 1];
                descriptor.become(first, second);
                if (isUse && descriptor.isThere) {
                    place = descriptors.add(segment, first, second);
                }
            }
            if (isUse && place != NONE) {
                descriptors.moveToFront(place);
            }
            return descriptor;
        }

        private long lookForPage(int segment, int page, boolean isUse) {
            int name = PAGE_SIZE * segment + page;
            int place = pages.placeOf(name);
            long word = place == NONE ? words[sum(descriptor.base, page)] : pages.firsts[place];
            if (!isUse || (word & THERE) == 0) {
                return word;
            }
            if (place == NONE) {
                words[sum(descriptor.base, page)] |= USED;
                place = pages.add(name, word | USED, 0);
            }
            pages.moveToFront(place);
            return word;
        }
    }
}
