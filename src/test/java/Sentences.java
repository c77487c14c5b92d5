import java.util.ArrayList;
import java.util.LinkedHashMap;
import java.util.List;
import java.util.Map;

/** The sentences of the document, by the headings under which they stand. */
final class Sentences {
    private final Map<String, String> sections = new LinkedHashMap<>();

    Sentences(String document) {
        for (String section : document.split("(?m)^## ")) {
            int end = section.indexOf('\n');
            sections.put(section.substring(0, end).strip(), section.substring(end));
        }
    }

    boolean has(String heading, String text) {
        return sections.getOrDefault(heading, "").contains(text);
    }

    /** The public face is code, and has FaceTest. @param quotes each a heading, a line's end, and what is quoted from under it */
    String unquoted(List<String> quotes) {
        StringBuilder faults = new StringBuilder();
        for (String heading : sections.keySet()) {
            if (!heading.startsWith("#") && !heading.equals("The public face")) {
                addUnquoted(faults, heading, quotes);
            }
        }
        return faults.toString();
    }

    private void addUnquoted(StringBuilder faults, String heading, List<String> quotes) {
        for (String sentence : sentencesOf(sections.get(heading))) {
            boolean quoted = false;
            for (String quote : quotes) {
                String text = withoutEnd(quote.substring(quote.indexOf('\n') + 1));
                quoted |= quote.startsWith(heading + "\n") && (text.contains(sentence) || sentence.contains(text));
            }
            if (!quoted) {
                faults.append("    ").append(heading).append(": ").append(sentence).append('\n');
            }
        }
    }

    /** Parts between semicolons and full stops; neither the words in capitals nor the numbers of a list. */
    private static List<String> sentencesOf(String section) {
        List<String> sentences = new ArrayList<>();
        for (String line : section.split("\n")) {
            for (String part : line.strip().split("(?<=[.;])\\s+")) {
                String sentence = withoutEnd(part);
                if (sentence.matches(".*[a-z].*") || sentence.matches("[A-Z_]+") && line.startsWith("Returns")) {
                    sentences.add(sentence);
                }
            }
        }
        return sentences;
    }

    private static String withoutEnd(String sentence) {
        return sentence.replaceAll("[.;]$", "");
    }
}
