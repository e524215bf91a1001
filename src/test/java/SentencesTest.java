/** Each part of each sentence of the document, from comma to comma, has a test that is named by words of it. */
public final class SentencesTest {
    public static void main(String[] args) {
        runAll();
        if (!Doc.isThere()) System.out.println("The document is not there: nobody looks whether each sentence has its test.");
        for (String heading : Doc.headings()) everyPart(heading);
        Due.end();
    }

    private static void runAll() {
        WhatItIsTest.all();
        TermsStampTest.all();
        TermsDigestTest.all();
        TermsCheckedTest.all();
        TermsReasonOrderTest.all();
        TermsRefusalsTest.all();
        TermsNothingChangedTest.all();
        Promise01NewObjectTest.all();
        Promise02KeyTest.all();
        Promise03OctetTest.all();
        Promise04MakeTest.all();
        Promise05LetterTest.all();
        Promise06TypeTest.all();
        Promise07CheckTest.all();
        Promise08FirstTest.all();
        Promise09RefundTest.all();
        Promise10DigestTest.all();
        Promise11SpentTest.all();
        Promise12SerialTest.all();
    }

    private static void everyPart(String heading) {
        String text = Doc.under(heading);
        boolean[] named = new boolean[text.length()];
        for (String words : Sentence.wordsUnder(heading)) {
            int start = text.indexOf(words);
            for (int i = start; start >= 0 && i < start + words.length(); i++) named[i] = true;
        }
        int end = 0;
        for (String part : Doc.parts(heading)) {
            int start = text.indexOf(part, end);
            end = start + part.length();
            boolean found = false;
            for (int i = start; i < end; i++) found |= named[i];
            Due.is("whether a test is named by words of: " + heading + " | " + part, String.valueOf(found), "true");
        }
    }
}
