import java.io.IOException;
import java.nio.file.Files;
import java.nio.file.Path;

/** A test for each sentence of ../shared/DOC.md, at the boundaries that it names; and none is left out. */
final class BoundsTest {
    private BoundsTest() {
    }

    public static void main(String[] args) throws IOException {
        SideBounds.all();
        TextBounds.all();
        ListBounds.all();
        OfferBounds.all();
        PairBounds.all();
        LatticeBounds.all();
        ChangeBounds.all();
        ExchangeBounds.all();
        FigureBounds.all();
        TheoremBounds.all();
        Doc.allNamed(Files.readString(Path.of(args[1], "DOC.md")));
        Check.end();
    }
}
