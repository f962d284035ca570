import java.lang.annotation.Retention;
import java.lang.annotation.RetentionPolicy;

/** Names the sentence of ../shared/DOC.md that a boundary test holds the class to; BoundaryTest looks it up there. */
@Retention(RetentionPolicy.RUNTIME)
@interface Sentence {
    /** The heading under which the sentence stands, up to its colon: "Promise 5", "Pressing". */
    String in();

    /** The sentence, or the part of it, to the letter. */
    String says();
}
