import java.lang.annotation.ElementType;
import java.lang.annotation.Retention;
import java.lang.annotation.RetentionPolicy;
import java.lang.annotation.Target;

/** The sentence of the document that a test is for. */
@Retention(RetentionPolicy.RUNTIME)
@Target(ElementType.METHOD)
@interface Sentence {
    /** The promise in which it stands, or 0 for the sections "What it is" and "Terms". */
    int of();

    /** The sentence or the part of it that is tested, in the document's words. */
    String words();
}
