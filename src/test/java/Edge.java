import java.io.IOException;
import java.io.UncheckedIOException;
import java.nio.charset.StandardCharsets;
import java.nio.file.Files;
import java.nio.file.Path;
import java.util.ArrayList;
import java.util.List;
import java.util.Map;
import java.util.TreeMap;
import java.util.function.IntConsumer;
import java.util.function.ObjIntConsumer;

/**
 * One test of a boundary case, by the words of the document that it holds and the promise that they
 * belong to; and the document itself, so that no sentence is left without a test unseen.
 */
final class Edge {
    private static final Path DOCUMENT = Path.of("../shared/DOC.md");
    private static final int TERMS = 0;
    private static final int PROMISES = 36;
    /** Just outside of what an int can be asked for, in every range of the document. */
    private static final int[] FAR = {Integer.MIN_VALUE, Integer.MAX_VALUE};

    private static final Map<Integer, List<String>> HELD = new TreeMap<>();

    private Edge() {
    }

    static void of(int promise, String words, Runnable test) {
        HELD.computeIfAbsent(promise, key -> new ArrayList<>()).add(words);
        Check.speakOf("promise " + promise + ", \"" + words + "\": ");
        try {
            test.run();
        } catch (RuntimeException thrown) {
            Check.is("the test", "threw " + thrown, "not thrown");
        }
        Check.speakOf("");
    }

    /** Each number from first to last must be taken, the ones next to them and far away refused. */
    static void range(String call, Class<?> refused, CindermapStore store, int first, int last, IntConsumer made) {
        for (int number = first; number <= last; number++) {
            made.accept(number);
        }
        for (int number : new int[] {first - 1, last + 1, FAR[0], FAR[1]}) {
            Check.fails(call + " with " + number, refused, store, () -> {
                made.accept(number);
                return "nothing";
            });
        }
    }

    /** The call must refuse each number that no open branch has. */
    static void noSuchBranch(String call, ObjIntConsumer<CindermapStore> made) {
        CindermapStore store = new CindermapStore();
        for (int branch = 0; branch < 3; branch++) {
            store.open();
        }
        store.drop(0);
        store.merge(1);
        for (int number : new int[] {-1, 0, 1, 3, 4, FAR[0], FAR[1]}) {
            Check.fails(call + " of the branch " + number, Check.INDEX, store, () -> {
                made.accept(store, number);
                return "nothing";
            });
        }
    }

    /** Each sentence of the terms, and each of a promise that tells an answer or an exception. */
    static void everySentenceIsHeld() {
        Map<Integer, List<String>> sentences = sentences();
        Check.is("the number of sections", sentences.size(), PROMISES + 1);
        List<String> all = new ArrayList<>();
        HELD.values().forEach(all::addAll);
        sentences.forEach((section, told) -> {
            List<String> held = section == TERMS ? all : HELD.getOrDefault(section, List.of());
            for (String sentence : told) {
                boolean isHeld = held.stream().anyMatch(words -> sentence.contains(words) || words.contains(sentence));
                Check.is("a test of section " + section + ", \"" + sentence + "\"", isHeld, true);
            }
        });
        HELD.forEach((promise, held) -> held.forEach(words -> Check.is("promise " + promise + " tells \"" + words + "\"",
            isTold(words, sentences.get(promise)) || isTold(words, sentences.get(TERMS)), true)));
    }

    private static boolean isTold(String words, List<String> sentences) {
        return String.join(" ", sentences).contains(words);
    }

    private static Map<Integer, List<String>> sentences() {
        Map<Integer, List<String>> sections = new TreeMap<>();
        String text = document();
        text = text.substring(text.indexOf("An object is used"), text.indexOf("## The public face"))
            + text.substring(text.indexOf("\n", text.indexOf("## Terms")), text.indexOf("## Not promised"));
        for (String section : text.split("(?m)^## ")) {
            boolean isPromise = section.startsWith("Promise ");
            int number = isPromise ? Integer.parseInt(section.substring(8, section.indexOf(':'))) : TERMS;
            List<String> told = new ArrayList<>();
            for (String paragraph : section.substring(isPromise ? section.indexOf('\n') : 0).split("\n\n")) {
                String plain = paragraph.replaceAll("<[^>]*>[^<]*</[^>]*>", "").replaceAll("\\s+", " ").trim();
                if (plain.startsWith("`")) {
                    plain = plain.substring(plain.indexOf("`: ") + 3);
                }
                // What else a promise's section tells is the call's name in other words, and the arguments'.
                if (!plain.isEmpty() && (!isPromise || plain.matches("(Creates|Returns|Throws) .*"))) {
                    told.addAll(List.of(plain.split("(?<=[.;]) ")));
                }
            }
            sections.put(number, told);
        }
        return sections;
    }

    private static String document() {
        try {
            return Files.readString(DOCUMENT, StandardCharsets.UTF_8);
        } catch (IOException e) {
            throw new UncheckedIOException(e);
        }
    }
}
