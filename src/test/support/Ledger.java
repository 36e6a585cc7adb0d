import java.util.ArrayList;
import java.util.Collections;
import java.util.List;

/**
 * Runs scripts of calls, one or more for each sentence of the document, and tells every answer that is not as due.
 * A script is lines, or parts of a line between semicolons, of these forms:
 *   call                   it must not be refused;
 *   call = answer          a number, or a name of the class's constants;
 *   call = 0..2 FULL       the same call once for each answer;
 *   call(0..5, 1) = 1      a call for each number, with one answer for all of them or with as many answers.
 */
final class Ledger {
  private static final List<String> NAMES = List.of("UNKNOWN", "OUTSIDE", "STATE", "FULL", "NO", "NONE");

  private String sentence = "";
  private int sentences = 0, asked = 0, wrong = 0;

  /** The words of the document that the scripts from here on hold it to. */
  void sentence(String where, String words) {
    sentence = where + ": " + words;
    sentences++;
  }

  /** On a new house. */
  House run(String script) {
    House house = new House();
    go(house, script);
    return house;
  }

  void go(House house, String script) {
    for (String line : script.split("[\n;]"))
      if (!line.isBlank()) step(house, line.strip());
  }

  private void step(House house, String line) {
    int equals = line.indexOf('=');
    List<String> calls = expand(equals < 0 ? line : line.substring(0, equals).strip());
    if (equals < 0) {
      for (String call : calls) due(call + " is not refused", house.call(call) >= 0 ? 1 : 0, 1);
      return;
    }
    List<Long> answers = answers(line.substring(equals + 1).strip());
    if (answers.size() == 1) answers = Collections.nCopies(calls.size(), answers.get(0));
    if (calls.size() == 1) calls = Collections.nCopies(answers.size(), calls.get(0));
    if (calls.size() != answers.size()) throw new IllegalStateException("as many calls as answers: " + line);
    for (int i = 0; i < calls.size(); i++) due(calls.get(i), house.call(calls.get(i)), answers.get(i));
  }

  static List<String> expand(String call) {
    int dots = call.indexOf("..");
    if (dots < 0) return List.of(call);
    int from = dots, to = dots + 2;
    while ("-0123456789".indexOf(call.charAt(from - 1)) >= 0) from--;
    while ("-0123456789".indexOf(call.charAt(to)) >= 0) to++;
    List<String> calls = new ArrayList<>();
    int last = Integer.parseInt(call.substring(dots + 2, to));
    for (int n = Integer.parseInt(call.substring(from, dots)); n <= last; n++)
      calls.addAll(expand(call.substring(0, from) + n + call.substring(to)));
    return calls;
  }

  private static List<Long> answers(String words) {
    List<Long> answers = new ArrayList<>();
    for (String word : words.split("\\s+")) {
      int dots = word.indexOf("..");
      if (NAMES.contains(word)) {
        answers.add(-1L - NAMES.indexOf(word));
      } else if (dots < 0) {
        answers.add(Long.parseLong(word));
      } else {
        long last = Long.parseLong(word.substring(dots + 2));
        for (long n = Long.parseLong(word.substring(0, dots)); n <= last; n++) answers.add(n);
      }
    }
    return answers;
  }

  void due(String call, long got, long want) {
    asked++;
    if (got == want) return;
    wrong++;
    System.out.println(sentence + "\n    " + call + " answered " + got + ", due is " + want);
  }

  void end() {
    System.out.println(sentences + " sentences, " + asked + " answers asked for, " + wrong + " are not as due");
    if (wrong != 0) System.exit(1);
  }
}
