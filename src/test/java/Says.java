import java.lang.annotation.Retention;
import java.lang.annotation.RetentionPolicy;

/** The words of the document that a test holds the class to; the test's name begins with where they stand (p04, t1). */
@Retention(RetentionPolicy.RUNTIME)
@interface Says {
    String value();
}
