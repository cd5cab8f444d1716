theorem mp_w8 : (Cond.isRef (.static "jdk/internal/util/Preconditions" "SIOOBE_FORMATTER" "Ljava/util/function/BiFunction;")) ∈ (flatC (Jvm.Cond.and given_1 narrow_1)) := by first | exact List.mem_of_getElem? (i := 5) (by decide +kernel) | decide +kernel

