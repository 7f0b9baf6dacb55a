import java.util.ArrayList;
import java.util.List;
import java.util.NoSuchElementException;
import java.util.TreeSet;

/**
 * The document once more, written with no thought of speed: nothing is kept but what was told, and
 * every answer is found from that anew. RandomRunsTest holds Archivepress against it.
 */
final class PlainOffice {
    record Span(int document, int first, int second, int last, boolean lifted) {
    }

    record Request(int asker, int document, int made, char state) {
    }

    final List<Integer> documents = new ArrayList<>();
    /** Each line as its document and its value. */
    final List<int[]> lines = new ArrayList<>();
    final List<int[]> rules = new ArrayList<>();
    final List<Span> spans = new ArrayList<>();
    final List<int[]> joins = new ArrayList<>();
    final List<Request> requests = new ArrayList<>();
    /** What was given, as the asker, the line and the price. */
    final List<int[]> gifts = new ArrayList<>();
    final List<int[]> payments = new ArrayList<>();
    int price = 5;
    int day = 0;

    private static void index(boolean good) {
        if (!good) {
            throw new IndexOutOfBoundsException();
        }
    }

    private static void argument(boolean good) {
        if (!good) {
            throw new IllegalArgumentException();
        }
    }

    private static void situation(boolean good) {
        if (!good) {
            throw new IllegalStateException();
        }
    }

    private static boolean within(int low, int number, int high) {
        return low <= number && number <= high;
    }

    private void document(int number) {
        index(within(0, number, documents.size() - 1));
    }

    private void line(int number) {
        index(within(0, number, lines.size() - 1));
    }

    private static void asker(int number) {
        argument(within(0, number, 4));
    }

    public int addDocument() {
        situation(documents.size() < 8);
        documents.add(0);
        return documents.size() - 1;
    }

    public int addLine(int document, int value) {
        document(document);
        argument(within(0, value, 9999));
        situation(lines.size() < 40);
        lines.add(new int[] {document, value});
        return lines.size() - 1;
    }

    public int rescan(int line, int value) {
        line(line);
        argument(within(0, value, 9999));
        int before = lines.get(line)[1];
        lines.set(line, new int[] {lines.get(line)[0], value});
        return before;
    }

    public int documentOf(int line) {
        line(line);
        return lines.get(line)[0];
    }

    public int indexOf(int line) {
        line(line);
        return (int) lines.subList(0, line).stream().filter(l -> l[0] == lines.get(line)[0]).count();
    }

    public int lines(int document) {
        document(document);
        return (int) lines.stream().filter(l -> l[0] == document).count();
    }

    public int addRule(int first, int second, int last) {
        argument(within(0, first, 9999) && within(0, second, 9999) && first <= second);
        argument(within(day, last, 9999));
        situation(rules.size() < 8);
        rules.add(new int[] {first, second, last});
        return rules.size() - 1;
    }

    public int addSpan(int document, int first, int second, int last) {
        document(document);
        argument(within(0, first, 39) && within(0, second, 39) && first <= second);
        argument(within(day, last, 9999));
        situation(spans.size() < 12);
        spans.add(new Span(document, first, second, last, false));
        return spans.size() - 1;
    }

    public int lift(int span) {
        index(within(0, span, spans.size() - 1));
        Span s = spans.get(span);
        situation(!s.lifted && s.last >= day);
        TreeSet<Integer> freed = hiddenLines();
        spans.set(span, new Span(s.document, s.first, s.second, s.last, true));
        freed.removeAll(hiddenLines());
        return freed.size();
    }

    /** The row of reasons for which the line is hidden, empty if it is not. */
    private String hidingRow(int line) {
        int value = lines.get(line)[1];
        boolean r = rules.stream().anyMatch(a -> day <= a[2] && within(a[0], value, a[1]));
        boolean s = spans.stream().anyMatch(a -> !a.lifted && day <= a.last
                && a.document == documentOf(line) && within(a.first, indexOf(line), a.second));
        return (r ? "r" : "") + (s ? "s" : "");
    }

    private TreeSet<Integer> hiddenLines() {
        TreeSet<Integer> found = new TreeSet<>();
        for (int line = 0; line < lines.size(); line++) {
            if (!hidingRow(line).isEmpty()) {
                found.add(line);
            }
        }
        return found;
    }

    public boolean isHidden(int line) {
        line(line);
        return hiddenLines().contains(line);
    }

    public int hidden() {
        return hiddenLines().size();
    }

    public int addJoin(int one, int other, int told) {
        line(one);
        line(other);
        line(told);
        argument(one != other && one != told && other != told);
        situation(joins.size() < 10);
        joins.add(new int[] {one, other, told});
        return joins.size() - 1;
    }

    private TreeSet<Integer> allTold(TreeSet<Integer> known) {
        TreeSet<Integer> all = new TreeSet<>(known);
        for (int[] join : joins) {
            if (all.contains(join[0]) && all.contains(join[1])) {
                all.add(join[2]);
            }
        }
        return all.equals(known) ? all : allTold(all);
    }

    private TreeSet<Integer> heldBy(int asker) {
        TreeSet<Integer> known = new TreeSet<>();
        for (int[] gift : gifts) {
            if (gift[0] == asker) {
                known.add(gift[1]);
            }
        }
        return allTold(known);
    }

    public boolean holds(int asker, int line) {
        asker(asker);
        line(line);
        return heldBy(asker).contains(line);
    }

    public boolean holdsByLog(int asker, int line) {
        return holds(asker, line);
    }

    public int held(int asker) {
        asker(asker);
        return heldBy(asker).size();
    }

    public int given(int asker) {
        asker(asker);
        return (int) gifts.stream().filter(g -> g[0] == asker).count();
    }

    public int holders(int line) {
        line(line);
        int holders = 0;
        for (int asker = 0; asker < 5; asker++) {
            holders += heldBy(asker).contains(line) ? 1 : 0;
        }
        return holders;
    }

    /** The row of causes, the first reason first, empty if the line is not withheld. */
    private String row(int asker, int line) {
        String hiding = hidingRow(line);
        if (!hiding.isEmpty()) {
            return hiding;
        }
        TreeSet<Integer> then = heldBy(asker);
        then.add(line);
        then = allTold(then);
        then.removeAll(heldBy(asker));
        then.retainAll(hiddenLines());
        return then.isEmpty() ? "" : "j" + hidingRow(then.first());
    }

    private String rowFor(int asker, int line) {
        asker(asker);
        line(line);
        situation(!heldBy(asker).contains(line));
        return row(asker, line);
    }

    public char why(int asker, int line) {
        String row = rowFor(asker, line);
        return row.isEmpty() ? '-' : row.charAt(0);
    }

    public char root(int asker, int line) {
        String row = rowFor(asker, line);
        if (row.isEmpty()) {
            throw new NoSuchElementException();
        }
        return row.charAt(row.length() - 1);
    }

    public int causes(int asker, int line) {
        return rowFor(asker, line).length();
    }

    public int request(int asker, int document) {
        asker(asker);
        document(document);
        if (owed(asker) > 100) {
            throw new UnsupportedOperationException();
        }
        situation(requests.size() < 20);
        situation(requests.stream().noneMatch(r -> r.state == 'w' && r.asker == asker && r.document == document));
        requests.add(new Request(asker, document, day, 'w'));
        return requests.size() - 1;
    }

    public char state(int request) {
        index(within(0, request, requests.size() - 1));
        return requests.get(request).state;
    }

    private Request end(int request, char state) {
        situation(state(request) == 'w');
        Request r = requests.get(request);
        requests.set(request, new Request(r.asker, r.document, r.made, state));
        return r;
    }

    public int answer(int request) {
        Request r = end(request, 'a');
        int before = gifts.size();
        for (int index = 0; index < lines(r.document); index++) {
            int line = lineAt(r.document, index);
            if (!heldBy(r.asker).contains(line) && row(r.asker, line).isEmpty()) {
                gifts.add(new int[] {r.asker, line, price});
            }
        }
        return gifts.size() - before;
    }

    private int lineAt(int document, int index) {
        int line = 0;
        while (documentOf(line) != document || indexOf(line) != index) {
            line++;
        }
        return line;
    }

    public int withdraw(int request) {
        end(request, 'x');
        return (int) requests.stream().filter(r -> r.state == 'w').count();
    }

    public int setPrice(int price) {
        argument(within(0, price, 99));
        int before = this.price;
        this.price = price;
        return before;
    }

    public int owed(int asker) {
        asker(asker);
        int due = gifts.stream().filter(g -> g[0] == asker).mapToInt(g -> g[2]).sum();
        return due - payments.stream().filter(p -> p[0] == asker).mapToInt(p -> p[1]).sum();
    }

    public int pay(int asker, int sum) {
        argument(within(1, sum, owed(asker)));
        payments.add(new int[] {asker, sum});
        return owed(asker);
    }

    public int pass(int days) {
        argument(within(1, days, 90) && day + days <= 9999);
        int before = late();
        day += days;
        return late() - before;
    }

    public int day() {
        return day;
    }

    public int late() {
        return (int) requests.stream().filter(r -> r.state == 'w' && day > r.made + 20).count();
    }

    public long fees() {
        return gifts.stream().mapToLong(g -> g[2]).sum();
    }

    public float answeredShare() {
        if (requests.isEmpty()) {
            throw new NoSuchElementException();
        }
        float answered = requests.stream().filter(r -> r.state == 'a').count();
        return answered / (float) requests.size();
    }
}
