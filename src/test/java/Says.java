import java.lang.annotation.Retention;
import java.lang.annotation.RetentionPolicy;

/** The sentence that a test is for, in the document's words, and the promise for which it is tested. */
@Retention(RetentionPolicy.RUNTIME)
@interface Says {
    int promise();

    String text();
}
