public final class LoanArrows {
    public static final int NONE = -1;

    private static final int COPIES = 3;
    private static final int FEWEST_LIBRARIES = 2;
    private static final int MOST_LIBRARIES = 12;
    private static final int USUAL_LIBRARIES = 6;
    private static final int LAST_SHAPE = 2;
    private static final int LAST_READER = 1000;
    private static final int VAN_MARK = 16;

    private static final int IDLE = 0;
    private static final int WAITING = 1;
    private static final int HOLDING = 2;
    private static final int LENT = 3;
    private static final int KEEPING = 4;

    private static final int FACTS = 5;

    private static final int PACKET_LOST = 0;
    private static final int LETTER_TAKEN = 1;
    private static final int LETTER_NOT_NEXT = 2;
    private static final int LINE_MOVED = 3;
    private static final int NOTHING_DONE = 4;

    private final int libraries;
    private final boolean[] down;
    private final Tree tree;
    private final Copy[] copies;
    private final Post post;
    private final Mail mail;

    public LoanArrows(int n, int shape) {
        libraries = n >= FEWEST_LIBRARIES && n <= MOST_LIBRARIES ? n : USUAL_LIBRARIES;
        down = new boolean[libraries];
        tree = new Tree(libraries, shape >= 0 && shape <= LAST_SHAPE ? shape : 0);
        copies = new Copy[COPIES];
        for (int i = 0; i < COPIES; i++) {
            copies[i] = new Copy(libraries);
        }
        post = new Post();
        mail = new Mail(libraries, tree, post);
    }

    public void copyAt(int copy, int library) throws IndexOutOfBoundsException, IllegalStateException {
        requireCopy(copy);
        requireLibrary(library);
        if (copies[copy].isPlaced()) {
            throw new IllegalStateException("the copy is placed already");
        }
        copies[copy].settle(library, tree);
    }

    public int want(int library, int copy, int reader)
            throws IndexOutOfBoundsException, IllegalArgumentException, IllegalStateException {
        requireLibrary(library);
        requireCopy(copy);
        if (reader < 1 || reader > LAST_READER) {
            throw new IllegalArgumentException("no such reader");
        }
        requirePlaced(copy);
        requireUp(library);
        Desk desk = copies[copy].desks[library];
        if (desk.isFull() || desk.hasInQueue(reader)) {
            throw new IllegalStateException("the queue is full or has the reader");
        }
        desk.enqueue(reader);
        if (desk.state == IDLE || desk.state == KEEPING) {
            openRequest(library, copy);
        }
        return desk.state;
    }

    public int lend(int library, int copy) throws IndexOutOfBoundsException, IllegalStateException {
        requireLibrary(library);
        requireCopy(copy);
        requireUp(library);
        Desk desk = copies[copy].desks[library];
        requireState(desk, HOLDING);
        desk.borrower = desk.dequeue();
        desk.state = LENT;
        return desk.borrower;
    }

    public int giveBack(int library, int copy) throws IndexOutOfBoundsException, IllegalStateException {
        requireLibrary(library);
        requireCopy(copy);
        requireUp(library);
        Desk desk = copies[copy].desks[library];
        requireState(desk, LENT);
        desk.borrower = 0;
        copies[copy].recordLoan(library);
        if (desk.follower == NONE) {
            desk.state = desk.queued == 0 ? KEEPING : HOLDING;
            return desk.state;
        }
        copies[copy].sendOn(library);
        if (desk.queued > 0) {
            openRequest(library, copy);
        }
        return desk.state;
    }

    public int van(int copy) throws IndexOutOfBoundsException, IllegalStateException {
        requireCopy(copy);
        if (!copies[copy].inVan) {
            throw new IllegalStateException("the copy is in no van");
        }
        return copies[copy].arrive();
    }

    public int sendAll(int library) throws IndexOutOfBoundsException, IllegalStateException {
        requireLibrary(library);
        requireUp(library);
        return mail.repeatFirstLetters(library);
    }

    public int pending() {
        return post.size;
    }

    public int packet(int i, int what) throws IndexOutOfBoundsException {
        requirePacket(i);
        if (what < 0 || what >= Post.PARTS) {
            throw new IndexOutOfBoundsException("no such part of a packet");
        }
        return post.part(i, what);
    }

    public int deliver(int i) throws IndexOutOfBoundsException {
        requirePacket(i);
        boolean letter = post.part(i, Post.KIND) == Post.LETTER;
        int from = post.part(i, Post.FROM);
        int to = post.part(i, Post.TO);
        int number = post.part(i, Post.NUMBER);
        int copy = post.part(i, Post.COPY);
        int asker = post.part(i, Post.ASKER);
        // It leaves the post first, so that what its taker sends finds room.
        post.remove(i);
        if (down[to]) {
            return PACKET_LOST;
        }
        if (letter) {
            return receiveLetter(from, to, number, copy, asker);
        }
        return mail.acknowledged(to, from, number) ? LINE_MOVED : NOTHING_DONE;
    }

    public int drop(int i) throws IndexOutOfBoundsException {
        requirePacket(i);
        post.remove(i);
        return post.size;
    }

    public boolean twin(int i) throws IndexOutOfBoundsException {
        requirePacket(i);
        return post.putAgain(i);
    }

    public void crash(int library) throws IndexOutOfBoundsException, IllegalStateException {
        requireLibrary(library);
        requireUp(library);
        down[library] = true;
    }

    public int restart(int library) throws IndexOutOfBoundsException, IllegalStateException {
        requireLibrary(library);
        if (!down[library]) {
            throw new IllegalStateException("the library is up");
        }
        down[library] = false;
        return mail.repeatFirstLetters(library);
    }

    public int of(int library, int copy, int what) throws IndexOutOfBoundsException {
        requireLibrary(library);
        requireCopy(copy);
        if (what < 0 || what >= FACTS) {
            throw new IndexOutOfBoundsException("no such fact of a library");
        }
        if (!copies[copy].isPlaced()) {
            return NONE;
        }
        Desk desk = copies[copy].desks[library];
        switch (what) {
            case 0:
                return desk.arrow;
            case 1:
                return desk.follower;
            case 2:
                return desk.state;
            case 3:
                return desk.queued;
            default:
                return desk.borrower;
        }
    }

    public int reader(int library, int copy, int i) throws IndexOutOfBoundsException {
        requireLibrary(library);
        requireCopy(copy);
        return copies[copy].desks[library].queuedAt(i);
    }

    public int place(int copy) throws IndexOutOfBoundsException {
        requireCopy(copy);
        return copies[copy].inVan ? VAN_MARK + copies[copy].where : copies[copy].where;
    }

    public int chain(int copy, int i) throws IndexOutOfBoundsException {
        requireCopy(copy);
        return copies[copy].chainMember(i);
    }

    public int served(int copy, int i) throws IndexOutOfBoundsException {
        requireCopy(copy);
        return copies[copy].loanAt(i);
    }

    public boolean leads(int library, int copy) throws IndexOutOfBoundsException, IllegalStateException {
        requireLibrary(library);
        requireCopy(copy);
        requirePlaced(copy);
        return copies[copy].arrowsEnd(library) == copies[copy].chainEnd();
    }

    public boolean quiet() {
        for (int i = 0; i < COPIES; i++) {
            if (copies[i].inVan) {
                return false;
            }
        }
        return mail.isEmpty();
    }

    private void openRequest(int library, int copy) {
        Desk desk = copies[copy].desks[library];
        if (desk.state == KEEPING) {
            desk.state = HOLDING;
            return;
        }
        int pointed = desk.arrow;
        desk.state = WAITING;
        desk.arrow = library;
        mail.sendLetter(library, pointed, copy, library);
    }

    private int receiveLetter(int from, int to, int number, int copy, int asker) {
        boolean isNext = mail.takesNext(from, to, number);
        if (isNext) {
            takeFind(from, to, copy, asker);
        }
        // Behind the taking: in a post that is nearly full a FIND that goes on has the room, not this.
        post.put(Post.ACKNOWLEDGEMENT, to, from, number, NONE, NONE);
        return isNext ? LETTER_TAKEN : LETTER_NOT_NEXT;
    }

    private void takeFind(int from, int library, int copy, int asker) {
        Desk desk = copies[copy].desks[library];
        int pointed = desk.arrow;
        desk.arrow = from;
        if (pointed != library) {
            mail.sendLetter(library, pointed, copy, asker);
            return;
        }
        desk.follower = asker;
        if (desk.state == KEEPING) {
            copies[copy].sendOn(library);
        }
    }

    private void requireLibrary(int library) {
        if (library < 0 || library >= libraries) {
            throw new IndexOutOfBoundsException("no such library");
        }
    }

    private void requireCopy(int copy) {
        if (copy < 0 || copy >= COPIES) {
            throw new IndexOutOfBoundsException("no such copy");
        }
    }

    private void requirePacket(int i) {
        if (i < 0 || i >= post.size) {
            throw new IndexOutOfBoundsException("no such packet");
        }
    }

    private void requirePlaced(int copy) {
        if (!copies[copy].isPlaced()) {
            throw new IllegalStateException("the copy is not placed");
        }
    }

    private void requireUp(int library) {
        if (down[library]) {
            throw new IllegalStateException("the library is down");
        }
    }

    private static void requireState(Desk desk, int state) {
        if (desk.state != state) {
            throw new IllegalStateException("the library's state does not allow it");
        }
    }

    private static final class Tree {
        private final int[] parents;

        Tree(int size, int shape) {
            parents = new int[size];
            parents[0] = NONE;
            for (int i = 1; i < size; i++) {
                parents[i] = parentByShape(i, shape);
            }
        }

        private static int parentByShape(int library, int shape) {
            if (shape == 0) {
                return (library - 1) / 2;
            }
            return shape == 1 ? library - 1 : 0;
        }

        boolean isParent(int upper, int lower) {
            return parents[lower] == upper;
        }

        boolean areNeighbours(int one, int other) {
            return isParent(one, other) || isParent(other, one);
        }

        int stepTowards(int from, int target) {
            if (from == target) {
                return from;
            }
            // A parent's number is below its children's, so the climb from the target can stop at from.
            int below = target;
            for (int level = 0; level < parents.length && below > from; level++) {
                if (parents[below] == from) {
                    return below;
                }
                below = parents[below];
            }
            return parents[from];
        }
    }

    /** What one library knows of one copy. */
    private static final class Desk {
        private static final int QUEUE_ROOM = 4;

        private final int[] queue = new int[QUEUE_ROOM];
        private int queued;
        private int arrow = NONE;
        private int follower = NONE;
        private int state = IDLE;
        private int borrower;

        boolean isFull() {
            return queued == QUEUE_ROOM;
        }

        boolean hasInQueue(int reader) {
            for (int i = 0; i < queued; i++) {
                if (queue[i] == reader) {
                    return true;
                }
            }
            return false;
        }

        int queuedAt(int i) {
            return i >= 0 && i < queued ? queue[i] : NONE;
        }

        void enqueue(int reader) {
            if (queued < QUEUE_ROOM) {
                queue[queued] = reader;
                queued++;
            }
        }

        int dequeue() {
            int first = queuedAt(0);
            for (int i = 1; i < queued; i++) {
                queue[i - 1] = queue[i];
            }
            queued = Math.max(0, queued - 1);
            return first;
        }
    }

    /** One copy: the desks of all libraries for it, where it is, and its loans. */
    private static final class Copy {
        private static final int LOANS_KNOWN = 200;

        private final Desk[] desks;
        private final int[] loans = new int[LOANS_KNOWN];
        private int loanCount;
        private int where = NONE;
        private boolean inVan;

        Copy(int libraries) {
            desks = new Desk[libraries];
            for (int i = 0; i < libraries; i++) {
                desks[i] = new Desk();
            }
        }

        boolean isPlaced() {
            return where != NONE;
        }

        void settle(int library, Tree tree) {
            for (int i = 0; i < desks.length; i++) {
                desks[i].arrow = tree.stepTowards(i, library);
            }
            desks[library].state = KEEPING;
            where = library;
        }

        void sendOn(int library) {
            Desk desk = desks[library];
            where = desk.follower;
            inVan = true;
            desk.follower = NONE;
            desk.state = IDLE;
        }

        int arrive() {
            inVan = false;
            desks[where].state = HOLDING;
            return where;
        }

        void recordLoan(int library) {
            if (loanCount < LOANS_KNOWN) {
                loans[loanCount] = library;
                loanCount++;
            }
        }

        int loanAt(int i) {
            return i >= 0 && i < loanCount ? loans[i] : NONE;
        }

        // A library is in the chain at most once: it asks anew only when it has sent the copy on.
        int chainMember(int i) {
            if (i < 0) {
                return NONE;
            }
            int member = where;
            for (int step = 0; step < i && step < desks.length && member != NONE; step++) {
                member = desks[member].follower;
            }
            return member;
        }

        int chainEnd() {
            int end = where;
            for (int step = 0; step < desks.length && desks[end].follower != NONE; step++) {
                end = desks[end].follower;
            }
            return end;
        }

        int arrowsEnd(int library) {
            int end = library;
            for (int step = 0; step < desks.length && desks[end].arrow != end; step++) {
                end = desks[end].arrow;
            }
            return end;
        }
    }

    /** The letters of one link in one direction; both ends' counters are kept here. */
    private static final class Line {
        // A link has at most one FIND of each copy under way, behind one that was taken but is not acknowledged.
        private static final int ROOM = COPIES + 1;

        private final int[] letterCopies = new int[ROOM];
        private final int[] letterAskers = new int[ROOM];
        private int firstNumber;
        private int nextNumber;
        private int numberToTake;

        boolean isEmpty() {
            return firstNumber == nextNumber;
        }

        void append(int copy, int asker) {
            int slot = nextNumber % ROOM;
            letterCopies[slot] = copy;
            letterAskers[slot] = asker;
            nextNumber++;
        }

        int firstCopy() {
            return letterCopies[firstNumber % ROOM];
        }

        int firstAsker() {
            return letterAskers[firstNumber % ROOM];
        }

        boolean removeFirst(int number) {
            if (isEmpty() || number != firstNumber) {
                return false;
            }
            firstNumber++;
            return true;
        }

        boolean takesNext(int number) {
            if (number != numberToTake) {
                return false;
            }
            numberToTake++;
            return true;
        }
    }

    /** All lines, and what they put into the post. */
    private static final class Mail {
        private final int libraries;
        private final Tree tree;
        private final Post post;
        private final Line[] lines;

        Mail(int libraries, Tree tree, Post post) {
            this.libraries = libraries;
            this.tree = tree;
            this.post = post;
            lines = new Line[2 * libraries];
            for (int i = 0; i < lines.length; i++) {
                lines[i] = new Line();
            }
        }

        // A link is known by its lower end: that one's line upwards is even, the line down to it odd.
        private Line lineBetween(int from, int to) {
            return tree.isParent(to, from) ? lines[2 * from] : lines[2 * to + 1];
        }

        void sendLetter(int from, int to, int copy, int asker) {
            Line line = lineBetween(from, to);
            boolean comesFirst = line.isEmpty();
            line.append(copy, asker);
            if (comesFirst) {
                postFirst(line, from, to);
            }
        }

        int repeatFirstLetters(int from) {
            int sent = 0;
            for (int to = 0; to < libraries; to++) {
                if (tree.areNeighbours(from, to) && !lineBetween(from, to).isEmpty()) {
                    postFirst(lineBetween(from, to), from, to);
                    sent++;
                }
            }
            return sent;
        }

        boolean takesNext(int from, int to, int number) {
            return lineBetween(from, to).takesNext(number);
        }

        boolean acknowledged(int from, int to, int number) {
            Line line = lineBetween(from, to);
            if (!line.removeFirst(number)) {
                return false;
            }
            if (!line.isEmpty()) {
                postFirst(line, from, to);
            }
            return true;
        }

        boolean isEmpty() {
            for (int i = 0; i < lines.length; i++) {
                if (!lines[i].isEmpty()) {
                    return false;
                }
            }
            return true;
        }

        private void postFirst(Line line, int from, int to) {
            post.put(Post.LETTER, from, to, line.firstNumber, line.firstCopy(), line.firstAsker());
        }
    }

    /** The packets under way, one behind the other in one array that is used again and again. */
    private static final class Post {
        private static final int LETTER = 0;
        private static final int ACKNOWLEDGEMENT = 1;

        private static final int KIND = 0;
        private static final int FROM = 1;
        private static final int TO = 2;
        private static final int NUMBER = 3;
        private static final int COPY = 4;
        private static final int ASKER = 5;
        private static final int PARTS = 6;

        private static final int ROOM = 40;

        private final int[] parts = new int[ROOM * PARTS];
        private int size;

        int part(int i, int what) {
            return parts[i * PARTS + what];
        }

        void put(int kind, int from, int to, int number, int copy, int asker) {
            if (size == ROOM) {
                return;
            }
            int start = size * PARTS;
            parts[start + KIND] = kind;
            parts[start + FROM] = from;
            parts[start + TO] = to;
            parts[start + NUMBER] = number;
            parts[start + COPY] = copy;
            parts[start + ASKER] = asker;
            size++;
        }

        boolean putAgain(int i) {
            if (size == ROOM) {
                return false;
            }
            System.arraycopy(parts, i * PARTS, parts, size * PARTS, PARTS);
            size++;
            return true;
        }

        void remove(int i) {
            int start = i * PARTS;
            System.arraycopy(parts, start + PARTS, parts, start, (size - i - 1) * PARTS);
            size--;
        }
    }
}
