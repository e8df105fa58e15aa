import java.util.NoSuchElementException;

public final class Example {
    public static void main(String[] arguments) {
        NeedleBakery bakery = new NeedleBakery();

        int needle = bakery.addNeedle(40);
        int other = bakery.addNeedle(35);
        bakery.setDeviation(needle, 1, 9);
        bakery.setDeviation(needle, 2, -6);
        System.out.println(bakery.deviationAt(needle, 50));      // 7
        System.out.println(bakery.trueCourse(needle, 50));       // 57
        System.out.println(bakery.courseFor(needle, 57));        // 50
        System.out.println(bakery.leastDifference());            // 5
        System.out.println(bakery.partnerOf(other));             // 0

        bakery.addBatch(30, 40, 2);
        bakery.addBatch(20, 20, 5);
        System.out.println(bakery.latenessByIds());              // 150
        int first = bakery.bestFirst();
        System.out.println(first);                               // 1
        System.out.println(bakery.bake(first));                  // 0

        for (char character : "needle 12;discard 1;rest 5".toCharArray()) {
            bakery.type(character);
        }
        System.out.println(bakery.execute());                    // 3
        System.out.println(bakery.clock());                      // 25
        bakery.undo();
        System.out.println(bakery.clock());                      // 20

        try {
            bakery.bake(first);
        } catch (NoSuchElementException e) {
            System.out.println(e.getMessage());                  // no batch with this id waits
        }
    }
}
