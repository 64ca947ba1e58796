/-- the words of 'new NoSuchElementException(text)' thrown: her constructor links her super's by 13 on this build -/
def zn_X : String := "java/util/NoSuchElementException"
def zn_ats (own : String) (ic : Nat) : List Cond :=
  Bundle.throwableAtoms ++ Bundle.throwableSAtoms ++ (Bundle.passSAtoms zn_X "java/lang/RuntimeException" 13 prog_13_method_4_code ++ Bundle.chainSAtoms "java/lang/RuntimeException" ["java/lang/Exception"]) ++
  [.methodLink own ic (Bundle.initS zn_X), .instantiable zn_X 6, .castable zn_X zn_X, .selects zn_X Bundle.tFill0 Bundle.tFill0, .selects zn_X Bundle.tFill Bundle.tFill,
   .lays zn_X Bundle.tN "cause" "Ljava/lang/Throwable;", .lays zn_X Bundle.tN "stackTrace" Bundle.steD, .lays zn_X Bundle.tN "suppressedExceptions" Bundle.listD, .lays zn_X Bundle.tN "detailMessage" "Ljava/lang/String;",
   .isRef (.static Bundle.tN "UNASSIGNED_STACK" Bundle.steD), .isRef (.static Bundle.tN "SUPPRESSED_SENTINEL" Bundle.listD),
   .fieldLink Bundle.tN 198 Bundle.tN "backtrace" "Ljava/lang/Object;", .lays Bundle.tN Bundle.tN "backtrace" "Ljava/lang/Object;", .lays zn_X Bundle.tN "backtrace" "Ljava/lang/Object;"]
def zn_at : List Cond := (zn_ats "Quorumfund" 163).filter vx_no
