import java.lang.annotation.ElementType;
import java.lang.annotation.Retention;
import java.lang.annotation.RetentionPolicy;
import java.lang.annotation.Target;

/** What of ../shared/DOC.md a test is for, word for word, so that the sentence can be found. */
@Retention(RetentionPolicy.RUNTIME)
@Target(ElementType.METHOD)
@interface Sentence {
    /** The promise under which it stands; 0 if it stands ahead of promise 1. */
    int promise() default 0;

    /** A sentence or a line of the document, or its part that the test is for. */
    String[] value();
}
