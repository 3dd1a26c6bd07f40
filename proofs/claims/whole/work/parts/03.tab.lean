/-! the exception tables of the law's own methods -/
def x_tabL : String → List (Nat × Nat × Nat × Nat)
  | "piece" => [(0, 10, 13, 13)]
  | "way" => [(0, 16, 19, 19), (0, 16, 23, 13)]
  | "water" => [(0, 10, 13, 19), (0, 10, 17, 13)]
  | "fire" => [(0, 18, 21, 19), (0, 18, 25, 13)]
  | "fan" => [(0, 14, 17, 19), (0, 14, 21, 13)]
  | "set" => [(0, 14, 17, 19), (0, 14, 21, 13)]
  | "eyes" => [(0, 9, 12, 13)]
  | "group" => [(0, 12, 15, 19), (0, 12, 19, 13)]
  | "walk" => [(0, 9, 12, 13)]
  | "door" => [(0, 12, 15, 19), (0, 12, 19, 13)]
  | "make" => [(0, 17, 20, 19)]
  | "gauges" => [(0, 7, 10, 13)]
  | "air" => [(0, 18, 21, 19), (0, 18, 25, 13)]
  | "smoke" => [(0, 19, 22, 19), (0, 19, 26, 13)]
  | "given" => [(0, 17, 20, 19), (0, 17, 24, 13)]
  | "lost" => [(0, 16, 19, 19), (0, 16, 23, 13)]
  | "shut" => [(0, 25, 28, 19), (0, 25, 32, 13)]
  | "out" => [(0, 16, 19, 19), (0, 16, 23, 13)]
  | "all" => [(0, 14, 17, 19), (0, 14, 21, 13)]
  | "side" => [(0, 18, 21, 19), (0, 18, 25, 13)]
  | "worth" => [(0, 18, 21, 19), (0, 18, 25, 13), (0, 18, 29, 87), (0, 18, 33, 89)]
  | "fewest" => [(0, 12, 15, 13)]
  | "alike" => [(0, 21, 24, 19), (0, 21, 28, 13)]
  | "regret" => [(0, 16, 19, 19), (0, 16, 23, 13)]
  | "turn" => [(0, 12, 15, 87), (0, 12, 19, 13)]
  | "turnTo" => [(0, 14, 17, 19), (0, 14, 21, 13)]
  | "best" => [(0, 10, 13, 87), (0, 10, 17, 13)]
  | "reach" => [(0, 18, 21, 19), (0, 18, 25, 13)]
  | "drill" => [(0, 10, 13, 13)]
  | "dose" => [(0, 17, 20, 19), (0, 17, 24, 13)]
  | "outAt" => [(0, 18, 21, 19), (0, 18, 25, 13)]
  | "whereAt" => [(0, 20, 23, 19), (0, 20, 27, 13)]
  | "reading" => [(0, 12, 15, 19), (0, 12, 19, 13)]
  | "fits" => [(0, 9, 12, 13)]
  | "next" => [(0, 9, 12, 13)]
  | "row" => [(0, 7, 10, 19), (0, 7, 14, 13)]
  | "write" => [(0, 11, 14, 19), (0, 11, 18, 87), (0, 11, 22, 89)]
  | "lay" => [(0, 18, 21, 19), (0, 18, 25, 13), (0, 18, 29, 87), (0, 18, 33, 89)]
  | _ => []
def x_tab (n : MethodName) : List (Nat × Nat × Nat × Nat) := if n.cls == "SmokeTubesLaw" then x_tabL n.name else []
def x_nw : List Cond := [.methodLinkNest "SmokeTubes" 11 ⟨"SmokeTubes$Acts", "<init>", "()V"⟩ "SmokeTubes",
  .methodLinkNest "SmokeTubes$Escape" 11 ⟨"SmokeTubes$Net", "<init>", "()V"⟩ "SmokeTubes",
  .methodLinkNest "SmokeTubes" 75 ⟨"SmokeTubes$Rows", "<init>", "()V"⟩ "SmokeTubes",
  .castable "java/lang/IllegalArgumentException" "java/lang/IllegalArgumentException",
  .declares ⟨"java/lang/RuntimeException", "<init>", "()V"⟩,
  .declares ⟨"java/lang/RuntimeException", "<init>", "(Ljava/lang/String;)V"⟩,
  .declares ⟨"java/lang/Exception", "<init>", "()V"⟩,
  .declares ⟨"java/lang/Exception", "<init>", "(Ljava/lang/String;)V"⟩,
  .declares ⟨"java/lang/Throwable", "<init>", "()V"⟩,
  .declares ⟨"java/lang/Throwable", "<init>", "(Ljava/lang/String;)V"⟩,
  .castable "java/util/NoSuchElementException" "java/util/NoSuchElementException",
  .castable "java/lang/IllegalStateException" "java/lang/IllegalStateException",
  .castable "java/lang/IndexOutOfBoundsException" "java/lang/IndexOutOfBoundsException",
  .methodLinkNest "SmokeTubes$Crew" 44 ⟨"SmokeTubes", "spot", "(II)I"⟩ "SmokeTubes",
  .methodLinkNest "SmokeTubes$Person" 52 ⟨"SmokeTubes", "spot", "(II)I"⟩ "SmokeTubes"]
def x_str : List (String × Nat × String) := [("SmokeTubes", 307, "it can't be so"),
  ("SmokeTubes", 314, "there is no such one"),
  ("SmokeTubes", 98, "a way joins two pieces"),
  ("SmokeTubes", 317, "no such row"),
  ("SmokeTubes", 327, "the row is missing"),
  ("SmokeTubes", 329, "the row ends too early"),
  ("SmokeTubes", 211, "no such fires"),
  ("SmokeTubes", 321, "there are no fires"),
  ("SmokeTubes", 286, "the row has no such place")]
def x_nc : List (String × String) := [("java/util/NoSuchElementException", "java/lang/IllegalArgumentException"), ("java/util/NoSuchElementException", "java/lang/IllegalStateException"), ("java/util/NoSuchElementException", "java/lang/IndexOutOfBoundsException"), ("java/lang/IllegalArgumentException", "java/util/NoSuchElementException"), ("java/lang/IllegalArgumentException", "java/lang/IllegalStateException"), ("java/lang/IllegalArgumentException", "java/lang/IndexOutOfBoundsException"), ("java/lang/IllegalStateException", "java/util/NoSuchElementException"), ("java/lang/IllegalStateException", "java/lang/IllegalArgumentException"), ("java/lang/IllegalStateException", "java/lang/IndexOutOfBoundsException"), ("java/lang/IndexOutOfBoundsException", "java/util/NoSuchElementException"), ("java/lang/IndexOutOfBoundsException", "java/lang/IllegalArgumentException"), ("java/lang/IndexOutOfBoundsException", "java/lang/IllegalStateException")]
