import java.io.IOException;
import java.nio.file.Path;

/** Each sentence of the document that names a boundary, under its own words. */
public final class BoundsTest {
    public static void main(String[] args) throws IOException {
        Book book = new Book(Path.of("../shared/DOC.md"));
        RoadBounds.tell(book);
        DayBounds.tell(book);
        PlanBounds.tell(book);
        SightBounds.tell(book);
        book.leavesNothingOut();
        book.finish();
    }
}
