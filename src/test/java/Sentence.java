import java.lang.annotation.ElementType;
import java.lang.annotation.Retention;
import java.lang.annotation.RetentionPolicy;
import java.lang.annotation.Target;

/** The sentence of ../shared/DOC.md that a test is about: a section's heading, and words that stand in that section. */
@Retention(RetentionPolicy.RUNTIME)
@Target(ElementType.METHOD)
@interface Sentence {
    /** "What it is", "Terms", "Guests", "Promise 3". */
    String of();

    String says();

    /** Whether the test is about the order of several errors: then each of them needs a test besides. */
    boolean order() default false;
}
