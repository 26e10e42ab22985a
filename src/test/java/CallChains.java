import java.util.ArrayList;
import java.util.HashMap;
import java.util.LinkedHashSet;
import java.util.List;
import java.util.Map;
import java.util.Set;
import javax.lang.model.element.ExecutableElement;
import javax.lang.model.element.TypeElement;
import javax.lang.model.type.TypeMirror;
import javax.lang.model.util.Types;

/** Which methods of the program call which; a call that a class below may answer counts for that one, too. */
final class CallChains {
    private final Map<ExecutableElement, Set<ExecutableElement>> calls = new HashMap<>();

    int size() {
        return calls.size();
    }

    void method(ExecutableElement method) {
        calls.putIfAbsent(method, new LinkedHashSet<>());
    }

    void call(ExecutableElement from, ExecutableElement to) {
        method(from);
        calls.get(from).add(to);
    }

    /** A call that isn't bound to the very method named: each method that overrides it may answer. */
    void open(Types types) {
        for (Map.Entry<ExecutableElement, Set<ExecutableElement>> entry : calls.entrySet()) {
            for (ExecutableElement to : new ArrayList<>(entry.getValue())) {
                boolean above = entry.getKey().getSimpleName().equals(to.getSimpleName()) && below(types, entry.getKey(), to);
                for (ExecutableElement other : calls.keySet()) {
                    if (!above && other.getSimpleName().equals(to.getSimpleName()) && below(types, other, to)) {
                        entry.getValue().add(other);
                    }
                }
            }
        }
    }

    private static boolean below(Types types, ExecutableElement low, ExecutableElement high) {
        TypeMirror lowClass = ((TypeElement) low.getEnclosingElement()).asType();
        TypeMirror highClass = ((TypeElement) high.getEnclosingElement()).asType();
        return !types.isSameType(lowClass, highClass) && types.isSubtype(lowClass, highClass);
    }

    /** A chain of calls that comes back to where it was; empty: there is none. */
    String ring() {
        for (ExecutableElement method : calls.keySet()) {
            String ring = chain(method, new ArrayList<>(), Integer.MAX_VALUE);
            if (!ring.isEmpty()) {
                return ring;
            }
        }
        return "";
    }

    /** A chain of more calls than this; empty: there is none. */
    String deeperThan(int most) {
        for (ExecutableElement method : calls.keySet()) {
            String chain = chain(method, new ArrayList<>(), most);
            if (!chain.isEmpty()) {
                return chain;
            }
        }
        return "";
    }

    private String chain(ExecutableElement method, List<ExecutableElement> above, int most) {
        boolean again = above.contains(method);
        above.add(method);
        String found = again || above.size() > most ? above.toString() : "";
        for (ExecutableElement to : calls.getOrDefault(method, Set.of())) {
            if (found.isEmpty()) {
                found = chain(to, above, most);
            }
        }
        above.remove(above.size() - 1);
        return found;
    }
}
