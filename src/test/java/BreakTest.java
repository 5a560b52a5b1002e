import java.io.IOException;
import java.util.List;
import java.util.concurrent.atomic.AtomicInteger;

/** The runs of src/test/edges are worth something: each fails when the class is broken against its sentence. */
public final class BreakTest {
    public static void main(String[] args) throws IOException {
        Breaker breaker = new Breaker();
        AtomicInteger breaks = new AtomicInteger();
        Edges.read().parallelStream().forEach(edge -> breaks.addAndGet(check(breaker, edge)));
        System.out.println(breaks + " ways to break the class");
        Script.end();
    }

    private static int check(Breaker breaker, Edges.Edge edge) {
        List<Script.Step> steps = edge.steps();
        try {
            Script.faults(edge.name() + " (read anew)", breaker.whole(), steps).forEach(Script::fault);
            for (Edges.Break change : edge.breaks) {
                if (Script.faults("", breaker.broken(change), steps).isEmpty()) {
                    Script.fault(edge.name() + ": is not seen: " + change);
                }
            }
        } catch (ReflectiveOperationException | IllegalArgumentException e) {
            Script.fault(edge.name() + ": " + e);
        }
        return edge.breaks.size();
    }
}
