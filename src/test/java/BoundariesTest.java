import java.nio.file.Files;
import java.nio.file.Path;
import java.util.HashSet;
import java.util.List;
import java.util.Set;

/** Each boundary sentence stands in DOC.md by these very words, and its own test holds. */
public final class BoundariesTest {
    public static void main(String[] args) throws Exception {
        String document = Files.readString(Path.of("../shared/DOC.md")).replaceAll("\\s+", " ");
        List<Boundaries.Sentence> all = Boundaries.all();
        Set<String> ids = new HashSet<>();
        for (Boundaries.Sentence sentence : all) {
            Due.about(sentence.id);
            Due.holds("the only test of that name", ids.add(sentence.id));
            Due.holds("the document says: " + sentence.words, document.contains(sentence.words));
            sentence.test.run();
        }
        System.out.println(all.size() + " sentences");
        Due.close();
    }
}
