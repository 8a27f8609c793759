import java.lang.annotation.Retention;
import java.lang.annotation.RetentionPolicy;

/** The words of the document that a test holds the class to; on a class of tests, the heading under which they stand. */
@Retention(RetentionPolicy.RUNTIME)
@interface Says {
    String[] value();
}
