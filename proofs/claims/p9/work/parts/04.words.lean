/-- the good words of the tables: every contract's words behind its own code -/
def gw : List Cond := lw_tbl.filter goodWord
theorem gw_of {w : Cond} (i : Nat) (h : lw_tbl[i]? = some w) (hg : goodWord w = true) : w ∈ gw := List.mem_filter.mpr ⟨List.mem_of_getElem? h, hg⟩
theorem gw_tbl {w : Cond} (h : w ∈ gw) : w ∈ lw_tbl := (List.mem_filter.mp h).1
theorem gw_in {big : List Cond} (hb : ∀ w ∈ gw, w ∈ big) : GoodIn big gw := fun w h => ⟨hb w h, good_of_word (List.mem_filter.mp h).2⟩
theorem gw_c {big : List Cond} {w : Cond} (hb : ∀ w ∈ gw, w ∈ big) (h : w ∈ gw) : GoodIn big (w :: gw) := fun v hv => (List.mem_cons.mp hv).elim (fun e => by subst e; exact gw_in hb _ h) (gw_in hb v)
theorem gw_V {big : List Cond} {own C : String} {idx : Nat} {y : MethodName} {w : Cond} (hb : ∀ w ∈ gw, w ∈ big) (h1 : Cond.methodLink own idx y ∈ gw) (h2 : Cond.instanceMethod y ∈ gw) (h3 : Cond.selects C y y ∈ gw) (h4 : Cond.initialized C ∈ gw) (h5 : w ∈ gw) : GoodIn big (wsV own idx C y (w :: gw)) := by
  intro v hv
  rcases List.mem_append.mp hv with h | h
  · simp only [List.mem_cons, List.not_mem_nil, or_false] at h
    rcases h with rfl | rfl | rfl | rfl
    · exact gw_in hb _ h1
    · exact gw_in hb _ h2
    · exact gw_in hb _ h3
    · exact gw_in hb _ h4
  · exact gw_c hb h5 v h
theorem gw_S {big : List Cond} {own : String} {idx : Nat} {y : MethodName} {w : Cond} (hb : ∀ w ∈ gw, w ∈ big) (h1 : Cond.methodLink own idx y ∈ gw) (h2 : Cond.static y ∈ gw) (h3 : Cond.initialized y.cls ∈ gw) (h5 : w ∈ gw) : GoodIn big (va_wsS own idx y (w :: gw)) := by
  intro v hv
  rcases List.mem_append.mp hv with h | h
  · simp only [List.mem_cons, List.not_mem_nil, or_false] at h
    rcases h with rfl | rfl | rfl
    · exact gw_in hb _ h1
    · exact gw_in hb _ h2
    · exact gw_in hb _ h3
  · exact gw_c hb h5 v h
theorem gw_b {c : Cond} : ∀ w ∈ gw, w ∈ c :: gw := fun w h => List.mem_cons_of_mem _ h
theorem gw_l : ∀ w ∈ gw, w ∈ lw_tbl := fun _ h => gw_tbl h
theorem gm_0 : (Jvm.Cond.selects "TwinCores$Unit" ({ cls := "TwinCores$Unit", name := "isOn", desc := "(I)Z" } : Jvm.MethodName) ({ cls := "TwinCores$Unit", name := "isOn", desc := "(I)Z" } : Jvm.MethodName)) ∈ gw := gw_of 0 rfl rfl
theorem gm_1 : (Jvm.Cond.selects "java/lang/Throwable" ({ cls := "java/lang/Throwable", name := "fillInStackTrace", desc := "(I)Ljava/lang/Throwable;" } : Jvm.MethodName) ({ cls := "java/lang/Throwable", name := "fillInStackTrace", desc := "(I)Ljava/lang/Throwable;" } : Jvm.MethodName)) ∈ gw := gw_of 1 rfl rfl
theorem gm_2 : (Jvm.Cond.selects "TwinCores" ({ cls := "TwinCores", name := "machineOf", desc := "(I)LTwinCores$Machine;" } : Jvm.MethodName) ({ cls := "TwinCores", name := "machineOf", desc := "(I)LTwinCores$Machine;" } : Jvm.MethodName)) ∈ gw := gw_of 2 rfl rfl
theorem gm_3 : (Jvm.Cond.selects "TwinCores$Machine" ({ cls := "TwinCores$Machine", name := "keptWord", desc := "(I)I" } : Jvm.MethodName) ({ cls := "TwinCores$Machine", name := "keptWord", desc := "(I)I" } : Jvm.MethodName)) ∈ gw := gw_of 3 rfl rfl
theorem gm_4 : (Jvm.Cond.selects "TwinCores$Machine" ({ cls := "TwinCores$Machine", name := "breaksIn", desc := "()Z" } : Jvm.MethodName) ({ cls := "TwinCores$Machine", name := "breaksIn", desc := "()Z" } : Jvm.MethodName)) ∈ gw := gw_of 4 rfl rfl
theorem gm_5 : (Jvm.Cond.selects "TwinCores$Machine" ({ cls := "TwinCores$Machine", name := "breakTo", desc := "(III)V" } : Jvm.MethodName) ({ cls := "TwinCores$Machine", name := "breakTo", desc := "(III)V" } : Jvm.MethodName)) ∈ gw := gw_of 5 rfl rfl
theorem gm_6 : (Jvm.Cond.selects "TwinCores$Machine" ({ cls := "TwinCores$Machine", name := "pushWord", desc := "(I)V" } : Jvm.MethodName) ({ cls := "TwinCores$Machine", name := "pushWord", desc := "(I)V" } : Jvm.MethodName)) ∈ gw := gw_of 6 rfl rfl
theorem gm_7 : (Jvm.Cond.selects "TwinCores$Machine" ({ cls := "TwinCores$Machine", name := "push", desc := "(I)V" } : Jvm.MethodName) ({ cls := "TwinCores$Machine", name := "push", desc := "(I)V" } : Jvm.MethodName)) ∈ gw := gw_of 7 rfl rfl
theorem gm_8 : (Jvm.Cond.selects "TwinCores$Machine" ({ cls := "TwinCores$Machine", name := "instruction", desc := "()V" } : Jvm.MethodName) ({ cls := "TwinCores$Machine", name := "instruction", desc := "()V" } : Jvm.MethodName)) ∈ gw := gw_of 8 rfl rfl
theorem gm_9 : (Jvm.Cond.selects "TwinCores$Machine" ({ cls := "TwinCores$Machine", name := "read", desc := "(I)I" } : Jvm.MethodName) ({ cls := "TwinCores$Machine", name := "read", desc := "(I)I" } : Jvm.MethodName)) ∈ gw := gw_of 9 rfl rfl
theorem gm_10 : (Jvm.Cond.selects "TwinCores$Machine" ({ cls := "TwinCores$Machine", name := "placeOf", desc := "(I)I" } : Jvm.MethodName) ({ cls := "TwinCores$Machine", name := "placeOf", desc := "(I)I" } : Jvm.MethodName)) ∈ gw := gw_of 10 rfl rfl
theorem gm_11 : (Jvm.Cond.selects "TwinCores$Machine" ({ cls := "TwinCores$Machine", name := "placeBehind", desc := "()I" } : Jvm.MethodName) ({ cls := "TwinCores$Machine", name := "placeBehind", desc := "()I" } : Jvm.MethodName)) ∈ gw := gw_of 11 rfl rfl
theorem gm_12 : (Jvm.Cond.selects "TwinCores$Machine" ({ cls := "TwinCores$Machine", name := "byteBehind", desc := "()I" } : Jvm.MethodName) ({ cls := "TwinCores$Machine", name := "byteBehind", desc := "()I" } : Jvm.MethodName)) ∈ gw := gw_of 12 rfl rfl
theorem gm_13 : (Jvm.Cond.selects "TwinCores$Machine" ({ cls := "TwinCores$Machine", name := "wordAt", desc := "(I)I" } : Jvm.MethodName) ({ cls := "TwinCores$Machine", name := "wordAt", desc := "(I)I" } : Jvm.MethodName)) ∈ gw := gw_of 13 rfl rfl
theorem gm_14 : (Jvm.Cond.selects "TwinCores$Machine" ({ cls := "TwinCores$Machine", name := "wordBehind", desc := "()I" } : Jvm.MethodName) ({ cls := "TwinCores$Machine", name := "wordBehind", desc := "()I" } : Jvm.MethodName)) ∈ gw := gw_of 14 rfl rfl
theorem gm_15 : (Jvm.Cond.selects "TwinCores$Machine" ({ cls := "TwinCores$Machine", name := "use", desc := "(II)V" } : Jvm.MethodName) ({ cls := "TwinCores$Machine", name := "use", desc := "(II)V" } : Jvm.MethodName)) ∈ gw := gw_of 15 rfl rfl
theorem gm_16 : (Jvm.Cond.selects "TwinCores$Machine" ({ cls := "TwinCores$Machine", name := "shown", desc := "(I)I" } : Jvm.MethodName) ({ cls := "TwinCores$Machine", name := "shown", desc := "(I)I" } : Jvm.MethodName)) ∈ gw := gw_of 16 rfl rfl
theorem gm_17 : (Jvm.Cond.selects "TwinCores$Machine" ({ cls := "TwinCores$Machine", name := "add", desc := "(I)V" } : Jvm.MethodName) ({ cls := "TwinCores$Machine", name := "add", desc := "(I)V" } : Jvm.MethodName)) ∈ gw := gw_of 17 rfl rfl
theorem gm_18 : (Jvm.Cond.selects "TwinCores$Machine" ({ cls := "TwinCores$Machine", name := "setFlag", desc := "(IZ)V" } : Jvm.MethodName) ({ cls := "TwinCores$Machine", name := "setFlag", desc := "(IZ)V" } : Jvm.MethodName)) ∈ gw := gw_of 18 rfl rfl
theorem gm_19 : (Jvm.Cond.selects "TwinCores$Machine" ({ cls := "TwinCores$Machine", name := "compare", desc := "(II)V" } : Jvm.MethodName) ({ cls := "TwinCores$Machine", name := "compare", desc := "(II)V" } : Jvm.MethodName)) ∈ gw := gw_of 19 rfl rfl
theorem gm_20 : (Jvm.Cond.selects "TwinCores$Machine" ({ cls := "TwinCores$Machine", name := "testBits", desc := "(I)V" } : Jvm.MethodName) ({ cls := "TwinCores$Machine", name := "testBits", desc := "(I)V" } : Jvm.MethodName)) ∈ gw := gw_of 20 rfl rfl
theorem gm_21 : (Jvm.Cond.selects "TwinCores$Machine" ({ cls := "TwinCores$Machine", name := "store", desc := "(II)V" } : Jvm.MethodName) ({ cls := "TwinCores$Machine", name := "store", desc := "(II)V" } : Jvm.MethodName)) ∈ gw := gw_of 21 rfl rfl
theorem gm_22 : (Jvm.Cond.selects "TwinCores$Machine" ({ cls := "TwinCores$Machine", name := "write", desc := "(II)V" } : Jvm.MethodName) ({ cls := "TwinCores$Machine", name := "write", desc := "(II)V" } : Jvm.MethodName)) ∈ gw := gw_of 22 rfl rfl
theorem gm_23 : (Jvm.Cond.selects "TwinCores$Machine" ({ cls := "TwinCores$Machine", name := "change", desc := "(II)V" } : Jvm.MethodName) ({ cls := "TwinCores$Machine", name := "change", desc := "(II)V" } : Jvm.MethodName)) ∈ gw := gw_of 23 rfl rfl
theorem gm_24 : (Jvm.Cond.selects "TwinCores$Machine" ({ cls := "TwinCores$Machine", name := "changed", desc := "(II)I" } : Jvm.MethodName) ({ cls := "TwinCores$Machine", name := "changed", desc := "(II)I" } : Jvm.MethodName)) ∈ gw := gw_of 24 rfl rfl
theorem gm_25 : (Jvm.Cond.selects "TwinCores$Machine" ({ cls := "TwinCores$Machine", name := "move", desc := "(I)V" } : Jvm.MethodName) ({ cls := "TwinCores$Machine", name := "move", desc := "(I)V" } : Jvm.MethodName)) ∈ gw := gw_of 25 rfl rfl
theorem gm_26 : (Jvm.Cond.selects "TwinCores$Machine" ({ cls := "TwinCores$Machine", name := "changeFlag", desc := "(I)V" } : Jvm.MethodName) ({ cls := "TwinCores$Machine", name := "changeFlag", desc := "(I)V" } : Jvm.MethodName)) ∈ gw := gw_of 26 rfl rfl
theorem gm_27 : (Jvm.Cond.selects "TwinCores$Machine" ({ cls := "TwinCores$Machine", name := "useStack", desc := "(I)V" } : Jvm.MethodName) ({ cls := "TwinCores$Machine", name := "useStack", desc := "(I)V" } : Jvm.MethodName)) ∈ gw := gw_of 27 rfl rfl
theorem gm_28 : (Jvm.Cond.selects "TwinCores$Machine" ({ cls := "TwinCores$Machine", name := "pull", desc := "()I" } : Jvm.MethodName) ({ cls := "TwinCores$Machine", name := "pull", desc := "()I" } : Jvm.MethodName)) ∈ gw := gw_of 28 rfl rfl
theorem gm_29 : (Jvm.Cond.selects "TwinCores$Machine" ({ cls := "TwinCores$Machine", name := "pullStatus", desc := "()V" } : Jvm.MethodName) ({ cls := "TwinCores$Machine", name := "pullStatus", desc := "()V" } : Jvm.MethodName)) ∈ gw := gw_of 29 rfl rfl
theorem gm_30 : (Jvm.Cond.selects "TwinCores$Machine" ({ cls := "TwinCores$Machine", name := "jump", desc := "(II)V" } : Jvm.MethodName) ({ cls := "TwinCores$Machine", name := "jump", desc := "(II)V" } : Jvm.MethodName)) ∈ gw := gw_of 30 rfl rfl
theorem gm_31 : (Jvm.Cond.selects "TwinCores$Machine" ({ cls := "TwinCores$Machine", name := "pullWord", desc := "()I" } : Jvm.MethodName) ({ cls := "TwinCores$Machine", name := "pullWord", desc := "()I" } : Jvm.MethodName)) ∈ gw := gw_of 31 rfl rfl
theorem gm_32 : (Jvm.Cond.selects "TwinCores$Machine" ({ cls := "TwinCores$Machine", name := "branch", desc := "(II)V" } : Jvm.MethodName) ({ cls := "TwinCores$Machine", name := "branch", desc := "(II)V" } : Jvm.MethodName)) ∈ gw := gw_of 32 rfl rfl
theorem gm_33 : (Jvm.Cond.selects "TwinCores$Machine" ({ cls := "TwinCores$Machine", name := "goes", desc := "(I)Z" } : Jvm.MethodName) ({ cls := "TwinCores$Machine", name := "goes", desc := "(I)Z" } : Jvm.MethodName)) ∈ gw := gw_of 33 rfl rfl
theorem gm_34 : (Jvm.Cond.selects "TwinCoresModel" ({ cls := "TwinCoresModel", name := "step", desc := "(I)V" } : Jvm.MethodName) ({ cls := "TwinCoresModel", name := "step", desc := "(I)V" } : Jvm.MethodName)) ∈ gw := gw_of 34 rfl rfl
theorem gm_35 : (Jvm.Cond.selects "TwinCoresModel" ({ cls := "TwinCoresModel", name := "doReset", desc := "(I)V" } : Jvm.MethodName) ({ cls := "TwinCoresModel", name := "doReset", desc := "(I)V" } : Jvm.MethodName)) ∈ gw := gw_of 35 rfl rfl
theorem gm_36 : (Jvm.Cond.selects "TwinCoresModel" ({ cls := "TwinCoresModel", name := "set", desc := "(IZ)V" } : Jvm.MethodName) ({ cls := "TwinCoresModel", name := "set", desc := "(IZ)V" } : Jvm.MethodName)) ∈ gw := gw_of 36 rfl rfl
theorem gm_37 : (Jvm.Cond.selects "TwinCoresModel" ({ cls := "TwinCoresModel", name := "plainWord", desc := "(I)I" } : Jvm.MethodName) ({ cls := "TwinCoresModel", name := "plainWord", desc := "(I)I" } : Jvm.MethodName)) ∈ gw := gw_of 37 rfl rfl
theorem gm_38 : (Jvm.Cond.selects "TwinCoresModel" ({ cls := "TwinCoresModel", name := "plain", desc := "(I)I" } : Jvm.MethodName) ({ cls := "TwinCoresModel", name := "plain", desc := "(I)I" } : Jvm.MethodName)) ∈ gw := gw_of 38 rfl rfl
theorem gm_39 : (Jvm.Cond.selects "TwinCoresModel" ({ cls := "TwinCoresModel", name := "hasSharpLine", desc := "()Z" } : Jvm.MethodName) ({ cls := "TwinCoresModel", name := "hasSharpLine", desc := "()Z" } : Jvm.MethodName)) ∈ gw := gw_of 39 rfl rfl
theorem gm_40 : (Jvm.Cond.selects "TwinCoresModel" ({ cls := "TwinCoresModel", name := "breakTo", desc := "(I)V" } : Jvm.MethodName) ({ cls := "TwinCoresModel", name := "breakTo", desc := "(I)V" } : Jvm.MethodName)) ∈ gw := gw_of 40 rfl rfl
theorem gm_41 : (Jvm.Cond.selects "TwinCoresModel" ({ cls := "TwinCoresModel", name := "pushWord", desc := "(I)V" } : Jvm.MethodName) ({ cls := "TwinCoresModel", name := "pushWord", desc := "(I)V" } : Jvm.MethodName)) ∈ gw := gw_of 41 rfl rfl
theorem gm_42 : (Jvm.Cond.selects "TwinCoresModel" ({ cls := "TwinCoresModel", name := "push", desc := "(I)V" } : Jvm.MethodName) ({ cls := "TwinCoresModel", name := "push", desc := "(I)V" } : Jvm.MethodName)) ∈ gw := gw_of 42 rfl rfl
theorem gm_43 : (Jvm.Cond.selects "TwinCoresModel" ({ cls := "TwinCoresModel", name := "hasLine", desc := "(I)Z" } : Jvm.MethodName) ({ cls := "TwinCoresModel", name := "hasLine", desc := "(I)Z" } : Jvm.MethodName)) ∈ gw := gw_of 43 rfl rfl
theorem gm_44 : (Jvm.Cond.selects "TwinCoresModel" ({ cls := "TwinCoresModel", name := "has", desc := "(I)Z" } : Jvm.MethodName) ({ cls := "TwinCoresModel", name := "has", desc := "(I)Z" } : Jvm.MethodName)) ∈ gw := gw_of 44 rfl rfl
theorem gm_45 : (Jvm.Cond.selects "TwinCoresModel" ({ cls := "TwinCoresModel", name := "fetch", desc := "()I" } : Jvm.MethodName) ({ cls := "TwinCoresModel", name := "fetch", desc := "()I" } : Jvm.MethodName)) ∈ gw := gw_of 45 rfl rfl
theorem gm_46 : (Jvm.Cond.selects "TwinCoresModel" ({ cls := "TwinCoresModel", name := "read", desc := "(I)I" } : Jvm.MethodName) ({ cls := "TwinCoresModel", name := "read", desc := "(I)I" } : Jvm.MethodName)) ∈ gw := gw_of 46 rfl rfl
theorem gm_47 : (Jvm.Cond.selects "TwinCoresModel" ({ cls := "TwinCoresModel", name := "portOf", desc := "(I)I" } : Jvm.MethodName) ({ cls := "TwinCoresModel", name := "portOf", desc := "(I)I" } : Jvm.MethodName)) ∈ gw := gw_of 47 rfl rfl
theorem gm_48 : (Jvm.Cond.selects "TwinCoresModel" ({ cls := "TwinCoresModel", name := "readPort", desc := "(II)I" } : Jvm.MethodName) ({ cls := "TwinCoresModel", name := "readPort", desc := "(II)I" } : Jvm.MethodName)) ∈ gw := gw_of 48 rfl rfl
theorem gm_49 : (Jvm.Cond.selects "TwinCoresModel" ({ cls := "TwinCoresModel", name := "peekPort", desc := "(II)I" } : Jvm.MethodName) ({ cls := "TwinCoresModel", name := "peekPort", desc := "(II)I" } : Jvm.MethodName)) ∈ gw := gw_of 49 rfl rfl
theorem gm_50 : (Jvm.Cond.selects "TwinCoresModel" ({ cls := "TwinCoresModel", name := "room", desc := "(II)I" } : Jvm.MethodName) ({ cls := "TwinCoresModel", name := "room", desc := "(II)I" } : Jvm.MethodName)) ∈ gw := gw_of 50 rfl rfl
theorem gm_51 : (Jvm.Cond.selects "TwinCoresModel" ({ cls := "TwinCoresModel", name := "withA", desc := "(I)V" } : Jvm.MethodName) ({ cls := "TwinCoresModel", name := "withA", desc := "(I)V" } : Jvm.MethodName)) ∈ gw := gw_of 51 rfl rfl
theorem gm_52 : (Jvm.Cond.selects "TwinCoresModel" ({ cls := "TwinCoresModel", name := "placeBy", desc := "(I)I" } : Jvm.MethodName) ({ cls := "TwinCoresModel", name := "placeBy", desc := "(I)I" } : Jvm.MethodName)) ∈ gw := gw_of 52 rfl rfl
theorem gm_53 : (Jvm.Cond.selects "TwinCoresModel" ({ cls := "TwinCoresModel", name := "fetchWord", desc := "()I" } : Jvm.MethodName) ({ cls := "TwinCoresModel", name := "fetchWord", desc := "()I" } : Jvm.MethodName)) ∈ gw := gw_of 53 rfl rfl
theorem gm_54 : (Jvm.Cond.selects "TwinCoresModel" ({ cls := "TwinCoresModel", name := "lowWord", desc := "(I)I" } : Jvm.MethodName) ({ cls := "TwinCoresModel", name := "lowWord", desc := "(I)I" } : Jvm.MethodName)) ∈ gw := gw_of 54 rfl rfl
theorem gm_55 : (Jvm.Cond.selects "TwinCoresModel" ({ cls := "TwinCoresModel", name := "write", desc := "(II)V" } : Jvm.MethodName) ({ cls := "TwinCoresModel", name := "write", desc := "(II)V" } : Jvm.MethodName)) ∈ gw := gw_of 55 rfl rfl
theorem gm_56 : (Jvm.Cond.selects "TwinCoresModel" ({ cls := "TwinCoresModel", name := "writePort", desc := "(III)V" } : Jvm.MethodName) ({ cls := "TwinCoresModel", name := "writePort", desc := "(III)V" } : Jvm.MethodName)) ∈ gw := gw_of 56 rfl rfl
theorem gm_57 : (Jvm.Cond.selects "TwinCoresModel" ({ cls := "TwinCoresModel", name := "seen", desc := "(I)I" } : Jvm.MethodName) ({ cls := "TwinCoresModel", name := "seen", desc := "(I)I" } : Jvm.MethodName)) ∈ gw := gw_of 57 rfl rfl
theorem gm_58 : (Jvm.Cond.selects "TwinCoresModel" ({ cls := "TwinCoresModel", name := "add", desc := "(I)V" } : Jvm.MethodName) ({ cls := "TwinCoresModel", name := "add", desc := "(I)V" } : Jvm.MethodName)) ∈ gw := gw_of 58 rfl rfl
theorem gm_59 : (Jvm.Cond.selects "TwinCoresModel" ({ cls := "TwinCoresModel", name := "compare", desc := "(II)V" } : Jvm.MethodName) ({ cls := "TwinCoresModel", name := "compare", desc := "(II)V" } : Jvm.MethodName)) ∈ gw := gw_of 59 rfl rfl
theorem gm_60 : (Jvm.Cond.selects "TwinCoresModel" ({ cls := "TwinCoresModel", name := "changes", desc := "(I)V" } : Jvm.MethodName) ({ cls := "TwinCoresModel", name := "changes", desc := "(I)V" } : Jvm.MethodName)) ∈ gw := gw_of 60 rfl rfl
theorem gm_61 : (Jvm.Cond.selects "TwinCoresModel" ({ cls := "TwinCoresModel", name := "changed", desc := "(II)I" } : Jvm.MethodName) ({ cls := "TwinCoresModel", name := "changed", desc := "(II)I" } : Jvm.MethodName)) ∈ gw := gw_of 61 rfl rfl
theorem gm_62 : (Jvm.Cond.selects "TwinCoresModel" ({ cls := "TwinCoresModel", name := "registers", desc := "(I)V" } : Jvm.MethodName) ({ cls := "TwinCoresModel", name := "registers", desc := "(I)V" } : Jvm.MethodName)) ∈ gw := gw_of 62 rfl rfl
theorem gm_63 : (Jvm.Cond.selects "TwinCoresModel" ({ cls := "TwinCoresModel", name := "pull", desc := "()I" } : Jvm.MethodName) ({ cls := "TwinCoresModel", name := "pull", desc := "()I" } : Jvm.MethodName)) ∈ gw := gw_of 63 rfl rfl
theorem gm_64 : (Jvm.Cond.selects "TwinCoresModel" ({ cls := "TwinCoresModel", name := "others", desc := "(I)V" } : Jvm.MethodName) ({ cls := "TwinCoresModel", name := "others", desc := "(I)V" } : Jvm.MethodName)) ∈ gw := gw_of 64 rfl rfl
theorem gm_65 : (Jvm.Cond.selects "TwinCoresModel" ({ cls := "TwinCoresModel", name := "goes", desc := "(I)V" } : Jvm.MethodName) ({ cls := "TwinCoresModel", name := "goes", desc := "(I)V" } : Jvm.MethodName)) ∈ gw := gw_of 65 rfl rfl
theorem gm_66 : (Jvm.Cond.selects "TwinCoresModel" ({ cls := "TwinCoresModel", name := "pullWord", desc := "()I" } : Jvm.MethodName) ({ cls := "TwinCoresModel", name := "pullWord", desc := "()I" } : Jvm.MethodName)) ∈ gw := gw_of 66 rfl rfl
theorem gm_67 : (Jvm.Cond.initialized "TwinCoresLaw") ∈ gw := gw_of 67 rfl rfl
theorem gm_68 : (Jvm.Cond.initialized "TwinCores") ∈ gw := gw_of 68 rfl rfl
theorem gm_69 : (Jvm.Cond.initialized "TwinCores$Unit") ∈ gw := gw_of 69 rfl rfl
theorem gm_70 : (Jvm.Cond.initialized "TwinCores$Row") ∈ gw := gw_of 70 rfl rfl
theorem gm_71 : (Jvm.Cond.initialized "TwinCores$Machine") ∈ gw := gw_of 71 rfl rfl
theorem gm_72 : (Jvm.Cond.initialized "TwinCoresModel") ∈ gw := gw_of 72 rfl rfl
theorem gm_73 : (Jvm.Cond.initialized "java/lang/Throwable") ∈ gw := gw_of 73 rfl rfl
theorem gm_74 : (Jvm.Cond.initialized "java/lang/Exception") ∈ gw := gw_of 74 rfl rfl
theorem gm_75 : (Jvm.Cond.initialized "java/lang/RuntimeException") ∈ gw := gw_of 75 rfl rfl
theorem gm_76 : (Jvm.Cond.initialized "java/lang/IndexOutOfBoundsException") ∈ gw := gw_of 76 rfl rfl
theorem gm_77 : (Jvm.Cond.initialized "java/lang/IllegalArgumentException") ∈ gw := gw_of 77 rfl rfl
theorem gm_78 : (Jvm.Cond.initialized "TwinCores$Codes") ∈ gw := gw_of 78 rfl rfl
theorem gm_79 : (Jvm.Cond.initialized "java/util/Arrays") ∈ gw := gw_of 79 rfl rfl
theorem gm_80 : (Jvm.Cond.classLink "TwinCoresLaw" (8 : Nat) "TwinCores") ∈ gw := gw_of 80 rfl rfl
theorem gm_81 : (Jvm.Cond.instantiable "TwinCores" (3 : Nat)) ∈ gw := gw_of 81 rfl rfl
theorem gm_82 : (Jvm.Cond.methodLink "TwinCoresLaw" (41 : Nat) ({ cls := "TwinCores", name := "<init>", desc := "()V" } : Jvm.MethodName)) ∈ gw := gw_of 82 rfl rfl
theorem gm_83 : (Jvm.Cond.instanceMethod ({ cls := "TwinCores", name := "<init>", desc := "()V" } : Jvm.MethodName)) ∈ gw := gw_of 83 rfl rfl
theorem gm_84 : (Jvm.Cond.code ({ cls := "TwinCores", name := "<init>", desc := "()V" } : Jvm.MethodName) prog_1_method_1_code (1 : Nat) (Option.none : Option Jvm.ClassFile.FieldType)) ∈ gw := gw_of 84 rfl rfl
theorem gm_85 : (Jvm.Cond.methodLink "TwinCores" (1 : Nat) ({ cls := "java/lang/Object", name := "<init>", desc := "()V" } : Jvm.MethodName)) ∈ gw := gw_of 85 rfl rfl
theorem gm_86 : (Jvm.Cond.instanceMethod ({ cls := "java/lang/Object", name := "<init>", desc := "()V" } : Jvm.MethodName)) ∈ gw := gw_of 86 rfl rfl
theorem gm_87 : (Jvm.Cond.code ({ cls := "java/lang/Object", name := "<init>", desc := "()V" } : Jvm.MethodName) object_method_1_code (1 : Nat) (Option.none : Option Jvm.ClassFile.FieldType)) ∈ gw := gw_of 87 rfl rfl
theorem gm_88 : (Jvm.Cond.classLink "TwinCores" (7 : Nat) "TwinCores$Unit") ∈ gw := gw_of 88 rfl rfl
theorem gm_89 : (Jvm.Cond.instantiable "TwinCores$Unit" (3 : Nat)) ∈ gw := gw_of 89 rfl rfl
theorem gm_90 : (Jvm.Cond.methodLink "TwinCores" (9 : Nat) ({ cls := "TwinCores$Unit", name := "<init>", desc := "()V" } : Jvm.MethodName)) ∈ gw := gw_of 90 rfl rfl
theorem gm_91 : (Jvm.Cond.instanceMethod ({ cls := "TwinCores$Unit", name := "<init>", desc := "()V" } : Jvm.MethodName)) ∈ gw := gw_of 91 rfl rfl
theorem gm_92 : (Jvm.Cond.code ({ cls := "TwinCores$Unit", name := "<init>", desc := "()V" } : Jvm.MethodName) prog_5_method_1_code (2 : Nat) (Option.none : Option Jvm.ClassFile.FieldType)) ∈ gw := gw_of 92 rfl rfl
theorem gm_93 : (Jvm.Cond.methodLink "TwinCores$Unit" (3 : Nat) ({ cls := "java/lang/Object", name := "<init>", desc := "()V" } : Jvm.MethodName)) ∈ gw := gw_of 93 rfl rfl
theorem gm_94 : (Jvm.Cond.classLink "TwinCores$Unit" (9 : Nat) "TwinCores$Row") ∈ gw := gw_of 94 rfl rfl
theorem gm_96 : (Jvm.Cond.instantiable "TwinCores$Row" (5 : Nat)) ∈ gw := gw_of 96 rfl rfl
theorem gm_97 : (Jvm.Cond.fieldLink "TwinCores$Unit" (17 : Nat) "TwinCores$Unit" "LENGTHS" "[I") ∈ gw := gw_of 97 rfl rfl
theorem gm_99 : (Jvm.Cond.methodLink "TwinCores$Unit" (21 : Nat) ({ cls := "TwinCores$Row", name := "<init>", desc := "(II)V" } : Jvm.MethodName)) ∈ gw := gw_of 99 rfl rfl
theorem gm_100 : (Jvm.Cond.instanceMethod ({ cls := "TwinCores$Row", name := "<init>", desc := "(II)V" } : Jvm.MethodName)) ∈ gw := gw_of 100 rfl rfl
theorem gm_101 : (Jvm.Cond.code ({ cls := "TwinCores$Row", name := "<init>", desc := "(II)V" } : Jvm.MethodName) prog_4_method_1_code (3 : Nat) (Option.none : Option Jvm.ClassFile.FieldType)) ∈ gw := gw_of 101 rfl rfl
theorem gm_102 : (Jvm.Cond.methodLink "TwinCores$Row" (1 : Nat) ({ cls := "java/lang/Object", name := "<init>", desc := "()V" } : Jvm.MethodName)) ∈ gw := gw_of 102 rfl rfl
theorem gm_103 : (Jvm.Cond.fieldLink "TwinCores$Row" (7 : Nat) "TwinCores$Row" "bytes" "[I") ∈ gw := gw_of 103 rfl rfl
theorem gm_104 : (Jvm.Cond.fieldLink "TwinCores$Row" (13 : Nat) "TwinCores$Row" "limit" "I") ∈ gw := gw_of 104 rfl rfl
theorem gm_106 : (Jvm.Cond.fieldLink "TwinCores$Row" (17 : Nat) "TwinCores$Row" "count" "I") ∈ gw := gw_of 106 rfl rfl
theorem gm_108 : (Jvm.Cond.fieldLink "TwinCores$Row" (20 : Nat) "TwinCores$Row" "head" "I") ∈ gw := gw_of 108 rfl rfl
theorem gm_109 : (Jvm.Cond.fieldLink "TwinCores$Row" (23 : Nat) "TwinCores$Row" "latest" "I") ∈ gw := gw_of 109 rfl rfl
theorem gm_110 : (Jvm.Cond.laysFinal "TwinCores$Row" "TwinCores$Row" "bytes" "[I") ∈ gw := gw_of 110 rfl rfl
theorem gm_111 : (Jvm.Cond.soleField "TwinCores$Row" "bytes") ∈ gw := gw_of 111 rfl rfl
theorem gm_112 : (Jvm.Cond.lays "TwinCores$Row" "TwinCores$Row" "limit" "I") ∈ gw := gw_of 112 rfl rfl
theorem gm_113 : (Jvm.Cond.soleField "TwinCores$Row" "limit") ∈ gw := gw_of 113 rfl rfl
theorem gm_114 : (Jvm.Cond.lays "TwinCores$Row" "TwinCores$Row" "count" "I") ∈ gw := gw_of 114 rfl rfl
theorem gm_115 : (Jvm.Cond.soleField "TwinCores$Row" "count") ∈ gw := gw_of 115 rfl rfl
theorem gm_116 : (Jvm.Cond.lays "TwinCores$Row" "TwinCores$Row" "head" "I") ∈ gw := gw_of 116 rfl rfl
theorem gm_117 : (Jvm.Cond.soleField "TwinCores$Row" "head") ∈ gw := gw_of 117 rfl rfl
theorem gm_118 : (Jvm.Cond.lays "TwinCores$Row" "TwinCores$Row" "latest" "I") ∈ gw := gw_of 118 rfl rfl
theorem gm_119 : (Jvm.Cond.soleField "TwinCores$Row" "latest") ∈ gw := gw_of 119 rfl rfl
theorem gm_120 : (Jvm.Cond.superclass "TwinCores$Row" "java/lang/Object") ∈ gw := gw_of 120 rfl rfl
theorem gm_121 : (Jvm.Cond.arrayClass Jvm.ClassFile.FieldType.int) ∈ gw := gw_of 121 rfl rfl
theorem gm_122 : (Jvm.Cond.fieldLink "TwinCores$Unit" (11 : Nat) "TwinCores$Unit" "rows" "[LTwinCores$Row;") ∈ gw := gw_of 122 rfl rfl
theorem gm_123 : (Jvm.Cond.fieldLink "TwinCores$Unit" (54 : Nat) "TwinCores$Unit" "flags" "I") ∈ gw := gw_of 123 rfl rfl
theorem gm_124 : (Jvm.Cond.fieldLink "TwinCores$Unit" (31 : Nat) "TwinCores$Unit" "resetDue" "Z") ∈ gw := gw_of 124 rfl rfl
theorem gm_125 : (Jvm.Cond.laysFinal "TwinCores$Unit" "TwinCores$Unit" "rows" "[LTwinCores$Row;") ∈ gw := gw_of 125 rfl rfl
theorem gm_126 : (Jvm.Cond.soleField "TwinCores$Unit" "rows") ∈ gw := gw_of 126 rfl rfl
theorem gm_127 : (Jvm.Cond.lays "TwinCores$Unit" "TwinCores$Unit" "flags" "I") ∈ gw := gw_of 127 rfl rfl
theorem gm_128 : (Jvm.Cond.soleField "TwinCores$Unit" "flags") ∈ gw := gw_of 128 rfl rfl
theorem gm_129 : (Jvm.Cond.lays "TwinCores$Unit" "TwinCores$Unit" "resetDue" "Z") ∈ gw := gw_of 129 rfl rfl
theorem gm_130 : (Jvm.Cond.soleField "TwinCores$Unit" "resetDue") ∈ gw := gw_of 130 rfl rfl
theorem gm_131 : (Jvm.Cond.superclass "TwinCores$Unit" "java/lang/Object") ∈ gw := gw_of 131 rfl rfl
theorem gm_132 : (Jvm.Cond.classLink "TwinCores" (16 : Nat) "TwinCores$Machine") ∈ gw := gw_of 132 rfl rfl
theorem gm_133 : (Jvm.Cond.instantiable "TwinCores$Machine" (13 : Nat)) ∈ gw := gw_of 133 rfl rfl
theorem gm_134 : (Jvm.Cond.methodLink "TwinCores" (18 : Nat) ({ cls := "TwinCores$Machine", name := "<init>", desc := "(ILTwinCores$Unit;)V" } : Jvm.MethodName)) ∈ gw := gw_of 134 rfl rfl
theorem gm_135 : (Jvm.Cond.instanceMethod ({ cls := "TwinCores$Machine", name := "<init>", desc := "(ILTwinCores$Unit;)V" } : Jvm.MethodName)) ∈ gw := gw_of 135 rfl rfl
theorem gm_136 : (Jvm.Cond.code ({ cls := "TwinCores$Machine", name := "<init>", desc := "(ILTwinCores$Unit;)V" } : Jvm.MethodName) prog_3_method_1_code (3 : Nat) (Option.none : Option Jvm.ClassFile.FieldType)) ∈ gw := gw_of 136 rfl rfl
theorem gm_137 : (Jvm.Cond.methodLink "TwinCores$Machine" (3 : Nat) ({ cls := "java/lang/Object", name := "<init>", desc := "()V" } : Jvm.MethodName)) ∈ gw := gw_of 137 rfl rfl
theorem gm_138 : (Jvm.Cond.constant "TwinCores$Machine" (19 : Nat) (65248 : Int32)) ∈ gw := gw_of 138 rfl rfl
theorem gm_139 : (Jvm.Cond.constant "TwinCores$Machine" (20 : Nat) (65272 : Int32)) ∈ gw := gw_of 139 rfl rfl
theorem gm_140 : (Jvm.Cond.fieldLink "TwinCores$Machine" (9 : Nat) "TwinCores$Machine" "number" "I") ∈ gw := gw_of 140 rfl rfl
theorem gm_141 : (Jvm.Cond.fieldLink "TwinCores$Machine" (15 : Nat) "TwinCores$Machine" "unit" "LTwinCores$Unit;") ∈ gw := gw_of 141 rfl rfl
theorem gm_142 : (Jvm.Cond.fieldLink "TwinCores$Machine" (21 : Nat) "TwinCores$Machine" "firstPort" "I") ∈ gw := gw_of 142 rfl rfl
theorem gm_143 : (Jvm.Cond.fieldLink "TwinCores$Machine" (24 : Nat) "TwinCores$Machine" "memory" "[I") ∈ gw := gw_of 143 rfl rfl
theorem gm_144 : (Jvm.Cond.fieldLink "TwinCores$Machine" (41 : Nat) "TwinCores$Machine" "a" "I") ∈ gw := gw_of 144 rfl rfl
theorem gm_145 : (Jvm.Cond.fieldLink "TwinCores$Machine" (44 : Nat) "TwinCores$Machine" "x" "I") ∈ gw := gw_of 145 rfl rfl
theorem gm_146 : (Jvm.Cond.fieldLink "TwinCores$Machine" (47 : Nat) "TwinCores$Machine" "y" "I") ∈ gw := gw_of 146 rfl rfl
theorem gm_147 : (Jvm.Cond.fieldLink "TwinCores$Machine" (50 : Nat) "TwinCores$Machine" "s" "I") ∈ gw := gw_of 147 rfl rfl
theorem gm_148 : (Jvm.Cond.fieldLink "TwinCores$Machine" (28 : Nat) "TwinCores$Machine" "p" "I") ∈ gw := gw_of 148 rfl rfl
theorem gm_149 : (Jvm.Cond.fieldLink "TwinCores$Machine" (53 : Nat) "TwinCores$Machine" "pc" "I") ∈ gw := gw_of 149 rfl rfl
theorem gm_150 : (Jvm.Cond.fieldLink "TwinCores$Machine" (31 : Nat) "TwinCores$Machine" "stands" "Z") ∈ gw := gw_of 150 rfl rfl
theorem gm_151 : (Jvm.Cond.fieldLink "TwinCores$Machine" (56 : Nat) "TwinCores$Machine" "nmiBefore" "Z") ∈ gw := gw_of 151 rfl rfl
theorem gm_152 : (Jvm.Cond.fieldLink "TwinCores$Machine" (59 : Nat) "TwinCores$Machine" "done" "J") ∈ gw := gw_of 152 rfl rfl
theorem gm_153 : (Jvm.Cond.laysFinal "TwinCores$Machine" "TwinCores$Machine" "number" "I") ∈ gw := gw_of 153 rfl rfl
theorem gm_154 : (Jvm.Cond.soleField "TwinCores$Machine" "number") ∈ gw := gw_of 154 rfl rfl
theorem gm_155 : (Jvm.Cond.laysFinal "TwinCores$Machine" "TwinCores$Machine" "unit" "LTwinCores$Unit;") ∈ gw := gw_of 155 rfl rfl
theorem gm_156 : (Jvm.Cond.soleField "TwinCores$Machine" "unit") ∈ gw := gw_of 156 rfl rfl
theorem gm_157 : (Jvm.Cond.laysFinal "TwinCores$Machine" "TwinCores$Machine" "firstPort" "I") ∈ gw := gw_of 157 rfl rfl
theorem gm_158 : (Jvm.Cond.soleField "TwinCores$Machine" "firstPort") ∈ gw := gw_of 158 rfl rfl
theorem gm_159 : (Jvm.Cond.laysFinal "TwinCores$Machine" "TwinCores$Machine" "memory" "[I") ∈ gw := gw_of 159 rfl rfl
theorem gm_160 : (Jvm.Cond.soleField "TwinCores$Machine" "memory") ∈ gw := gw_of 160 rfl rfl
theorem gm_161 : (Jvm.Cond.lays "TwinCores$Machine" "TwinCores$Machine" "a" "I") ∈ gw := gw_of 161 rfl rfl
theorem gm_162 : (Jvm.Cond.soleField "TwinCores$Machine" "a") ∈ gw := gw_of 162 rfl rfl
theorem gm_163 : (Jvm.Cond.lays "TwinCores$Machine" "TwinCores$Machine" "x" "I") ∈ gw := gw_of 163 rfl rfl
theorem gm_164 : (Jvm.Cond.soleField "TwinCores$Machine" "x") ∈ gw := gw_of 164 rfl rfl
theorem gm_165 : (Jvm.Cond.lays "TwinCores$Machine" "TwinCores$Machine" "y" "I") ∈ gw := gw_of 165 rfl rfl
theorem gm_166 : (Jvm.Cond.soleField "TwinCores$Machine" "y") ∈ gw := gw_of 166 rfl rfl
theorem gm_167 : (Jvm.Cond.lays "TwinCores$Machine" "TwinCores$Machine" "s" "I") ∈ gw := gw_of 167 rfl rfl
theorem gm_168 : (Jvm.Cond.soleField "TwinCores$Machine" "s") ∈ gw := gw_of 168 rfl rfl
theorem gm_169 : (Jvm.Cond.lays "TwinCores$Machine" "TwinCores$Machine" "p" "I") ∈ gw := gw_of 169 rfl rfl
theorem gm_170 : (Jvm.Cond.soleField "TwinCores$Machine" "p") ∈ gw := gw_of 170 rfl rfl
theorem gm_171 : (Jvm.Cond.lays "TwinCores$Machine" "TwinCores$Machine" "pc" "I") ∈ gw := gw_of 171 rfl rfl
theorem gm_172 : (Jvm.Cond.soleField "TwinCores$Machine" "pc") ∈ gw := gw_of 172 rfl rfl
theorem gm_173 : (Jvm.Cond.lays "TwinCores$Machine" "TwinCores$Machine" "stands" "Z") ∈ gw := gw_of 173 rfl rfl
theorem gm_174 : (Jvm.Cond.soleField "TwinCores$Machine" "stands") ∈ gw := gw_of 174 rfl rfl
theorem gm_175 : (Jvm.Cond.lays "TwinCores$Machine" "TwinCores$Machine" "nmiBefore" "Z") ∈ gw := gw_of 175 rfl rfl
theorem gm_176 : (Jvm.Cond.soleField "TwinCores$Machine" "nmiBefore") ∈ gw := gw_of 176 rfl rfl
theorem gm_177 : (Jvm.Cond.lays "TwinCores$Machine" "TwinCores$Machine" "done" "J") ∈ gw := gw_of 177 rfl rfl
theorem gm_178 : (Jvm.Cond.soleField "TwinCores$Machine" "done") ∈ gw := gw_of 178 rfl rfl
theorem gm_179 : (Jvm.Cond.superclass "TwinCores$Machine" "java/lang/Object") ∈ gw := gw_of 179 rfl rfl
theorem gm_180 : (Jvm.Cond.fieldLink "TwinCores" (10 : Nat) "TwinCores" "unit" "LTwinCores$Unit;") ∈ gw := gw_of 180 rfl rfl
theorem gm_181 : (Jvm.Cond.fieldLink "TwinCores" (21 : Nat) "TwinCores" "first" "LTwinCores$Machine;") ∈ gw := gw_of 181 rfl rfl
theorem gm_182 : (Jvm.Cond.fieldLink "TwinCores" (25 : Nat) "TwinCores" "second" "LTwinCores$Machine;") ∈ gw := gw_of 182 rfl rfl
theorem gm_183 : (Jvm.Cond.laysFinal "TwinCores" "TwinCores" "unit" "LTwinCores$Unit;") ∈ gw := gw_of 183 rfl rfl
theorem gm_184 : (Jvm.Cond.soleField "TwinCores" "unit") ∈ gw := gw_of 184 rfl rfl
theorem gm_185 : (Jvm.Cond.laysFinal "TwinCores" "TwinCores" "first" "LTwinCores$Machine;") ∈ gw := gw_of 185 rfl rfl
theorem gm_186 : (Jvm.Cond.soleField "TwinCores" "first") ∈ gw := gw_of 186 rfl rfl
theorem gm_187 : (Jvm.Cond.laysFinal "TwinCores" "TwinCores" "second" "LTwinCores$Machine;") ∈ gw := gw_of 187 rfl rfl
theorem gm_188 : (Jvm.Cond.soleField "TwinCores" "second") ∈ gw := gw_of 188 rfl rfl
theorem gm_189 : (Jvm.Cond.superclass "TwinCores" "java/lang/Object") ∈ gw := gw_of 189 rfl rfl
theorem gm_190 : (Jvm.Cond.methodLink "TwinCoresLaw" (79 : Nat) ({ cls := "TwinCores", name := "clear", desc := "()V" } : Jvm.MethodName)) ∈ gw := gw_of 190 rfl rfl
theorem gm_191 : (Jvm.Cond.instanceMethod ({ cls := "TwinCores", name := "clear", desc := "()V" } : Jvm.MethodName)) ∈ gw := gw_of 191 rfl rfl
theorem gm_192 : (Jvm.Cond.selects "TwinCores" ({ cls := "TwinCores", name := "clear", desc := "()V" } : Jvm.MethodName) ({ cls := "TwinCores", name := "clear", desc := "()V" } : Jvm.MethodName)) ∈ gw := gw_of 192 rfl rfl
theorem gm_193 : (Jvm.Cond.code ({ cls := "TwinCores", name := "clear", desc := "()V" } : Jvm.MethodName) prog_1_method_10_code (1 : Nat) (Option.none : Option Jvm.ClassFile.FieldType)) ∈ gw := gw_of 193 rfl rfl
theorem gm_194 : (Jvm.Cond.methodLink "TwinCores" (78 : Nat) ({ cls := "TwinCores$Unit", name := "forget", desc := "()V" } : Jvm.MethodName)) ∈ gw := gw_of 194 rfl rfl
theorem gm_195 : (Jvm.Cond.instanceMethod ({ cls := "TwinCores$Unit", name := "forget", desc := "()V" } : Jvm.MethodName)) ∈ gw := gw_of 195 rfl rfl
theorem gm_196 : (Jvm.Cond.selects "TwinCores$Unit" ({ cls := "TwinCores$Unit", name := "forget", desc := "()V" } : Jvm.MethodName) ({ cls := "TwinCores$Unit", name := "forget", desc := "()V" } : Jvm.MethodName)) ∈ gw := gw_of 196 rfl rfl
theorem gm_197 : (Jvm.Cond.code ({ cls := "TwinCores$Unit", name := "forget", desc := "()V" } : Jvm.MethodName) prog_5_method_2_code (2 : Nat) (Option.none : Option Jvm.ClassFile.FieldType)) ∈ gw := gw_of 197 rfl rfl
theorem gm_198 : (Jvm.Cond.methodLink "TwinCores$Unit" (24 : Nat) ({ cls := "TwinCores$Row", name := "forget", desc := "()V" } : Jvm.MethodName)) ∈ gw := gw_of 198 rfl rfl
theorem gm_199 : (Jvm.Cond.instanceMethod ({ cls := "TwinCores$Row", name := "forget", desc := "()V" } : Jvm.MethodName)) ∈ gw := gw_of 199 rfl rfl
theorem gm_200 : (Jvm.Cond.selects "TwinCores$Row" ({ cls := "TwinCores$Row", name := "forget", desc := "()V" } : Jvm.MethodName) ({ cls := "TwinCores$Row", name := "forget", desc := "()V" } : Jvm.MethodName)) ∈ gw := gw_of 200 rfl rfl
theorem gm_201 : (Jvm.Cond.code ({ cls := "TwinCores$Row", name := "forget", desc := "()V" } : Jvm.MethodName) prog_4_method_2_code (1 : Nat) (Option.none : Option Jvm.ClassFile.FieldType)) ∈ gw := gw_of 201 rfl rfl
theorem gm_202 : (Jvm.Cond.methodLink "TwinCores$Unit" (27 : Nat) ({ cls := "TwinCores$Unit", name := "writeFlags", desc := "(I)V" } : Jvm.MethodName)) ∈ gw := gw_of 202 rfl rfl
theorem gm_203 : (Jvm.Cond.instanceMethod ({ cls := "TwinCores$Unit", name := "writeFlags", desc := "(I)V" } : Jvm.MethodName)) ∈ gw := gw_of 203 rfl rfl
theorem gm_204 : (Jvm.Cond.selects "TwinCores$Unit" ({ cls := "TwinCores$Unit", name := "writeFlags", desc := "(I)V" } : Jvm.MethodName) ({ cls := "TwinCores$Unit", name := "writeFlags", desc := "(I)V" } : Jvm.MethodName)) ∈ gw := gw_of 204 rfl rfl
theorem gm_205 : (Jvm.Cond.code ({ cls := "TwinCores$Unit", name := "writeFlags", desc := "(I)V" } : Jvm.MethodName) prog_5_method_12_code (4 : Nat) (Option.none : Option Jvm.ClassFile.FieldType)) ∈ gw := gw_of 205 rfl rfl
theorem gm_206 : (Jvm.Cond.methodLink "TwinCores$Unit" (57 : Nat) ({ cls := "TwinCores$Unit", name := "isOn", desc := "(I)Z" } : Jvm.MethodName)) ∈ gw := gw_of 206 rfl rfl
theorem gm_208 : (Jvm.Cond.instanceMethod ({ cls := "TwinCores$Unit", name := "isOn", desc := "(I)Z" } : Jvm.MethodName)) ∈ gw := gw_of 208 rfl rfl
theorem gm_209 : (Jvm.Cond.code ({ cls := "TwinCores$Unit", name := "isOn", desc := "(I)Z" } : Jvm.MethodName) prog_5_method_13_code (2 : Nat) (Option.some Jvm.ClassFile.FieldType.boolean)) ∈ gw := gw_of 209 rfl rfl
theorem gm_210 : (Jvm.Cond.methodLink "TwinCores$Unit" (39 : Nat) ({ cls := "TwinCores$Unit", name := "rowFor", desc := "(II)LTwinCores$Row;" } : Jvm.MethodName)) ∈ gw := gw_of 210 rfl rfl
theorem gm_211 : (Jvm.Cond.instanceMethod ({ cls := "TwinCores$Unit", name := "rowFor", desc := "(II)LTwinCores$Row;" } : Jvm.MethodName)) ∈ gw := gw_of 211 rfl rfl
theorem gm_212 : (Jvm.Cond.selects "TwinCores$Unit" ({ cls := "TwinCores$Unit", name := "rowFor", desc := "(II)LTwinCores$Row;" } : Jvm.MethodName) ({ cls := "TwinCores$Unit", name := "rowFor", desc := "(II)LTwinCores$Row;" } : Jvm.MethodName)) ∈ gw := gw_of 212 rfl rfl
theorem gm_213 : (Jvm.Cond.code ({ cls := "TwinCores$Unit", name := "rowFor", desc := "(II)LTwinCores$Row;" } : Jvm.MethodName) prog_5_method_5_code (3 : Nat) (Option.some (Jvm.ClassFile.FieldType.object "TwinCores$Row"))) ∈ gw := gw_of 213 rfl rfl
theorem gm_214 : (Jvm.Cond.methodLink "TwinCores" (81 : Nat) ({ cls := "TwinCores$Machine", name := "forget", desc := "()V" } : Jvm.MethodName)) ∈ gw := gw_of 214 rfl rfl
theorem gm_215 : (Jvm.Cond.instanceMethod ({ cls := "TwinCores$Machine", name := "forget", desc := "()V" } : Jvm.MethodName)) ∈ gw := gw_of 215 rfl rfl
theorem gm_216 : (Jvm.Cond.selects "TwinCores$Machine" ({ cls := "TwinCores$Machine", name := "forget", desc := "()V" } : Jvm.MethodName) ({ cls := "TwinCores$Machine", name := "forget", desc := "()V" } : Jvm.MethodName)) ∈ gw := gw_of 216 rfl rfl
theorem gm_217 : (Jvm.Cond.code ({ cls := "TwinCores$Machine", name := "forget", desc := "()V" } : Jvm.MethodName) prog_3_method_2_code (1 : Nat) (Option.none : Option Jvm.ClassFile.FieldType)) ∈ gw := gw_of 217 rfl rfl
theorem gm_218 : (Jvm.Cond.methodLink "TwinCores$Machine" (35 : Nat) ({ cls := "java/util/Arrays", name := "fill", desc := "([II)V" } : Jvm.MethodName)) ∈ gw := gw_of 218 rfl rfl
theorem gm_219 : (Jvm.Cond.static ({ cls := "java/util/Arrays", name := "fill", desc := "([II)V" } : Jvm.MethodName)) ∈ gw := gw_of 219 rfl rfl
theorem gm_220 : (Jvm.Cond.code ({ cls := "java/util/Arrays", name := "fill", desc := "([II)V" } : Jvm.MethodName) prog_14_method_103_code (4 : Nat) (Option.none : Option Jvm.ClassFile.FieldType)) ∈ gw := gw_of 220 rfl rfl
theorem gm_221 : (Jvm.Cond.methodLink "TwinCoresLaw" (45 : Nat) ({ cls := "TwinCoresLaw", name := "load", desc := "(LTwinCores;IIIIIIII)I" } : Jvm.MethodName)) ∈ gw := gw_of 221 rfl rfl
theorem gm_222 : (Jvm.Cond.static ({ cls := "TwinCoresLaw", name := "load", desc := "(LTwinCores;IIIIIIII)I" } : Jvm.MethodName)) ∈ gw := gw_of 222 rfl rfl
theorem gm_223 : (Jvm.Cond.codeWith ({ cls := "TwinCoresLaw", name := "load", desc := "(LTwinCores;IIIIIIII)I" } : Jvm.MethodName) method_3_code (10 : Nat) (Option.some Jvm.ClassFile.FieldType.int) [((0 : Nat), (17 : Nat), (20 : Nat), (13 : Nat)), ((0 : Nat), (17 : Nat), (24 : Nat), (15 : Nat))]) ∈ gw := gw_of 223 rfl rfl
theorem gm_224 : (Jvm.Cond.classLink "TwinCoresLaw" (13 : Nat) "java/lang/IndexOutOfBoundsException") ∈ gw := gw_of 224 rfl rfl
theorem gm_225 : (Jvm.Cond.classLink "TwinCoresLaw" (15 : Nat) "java/lang/IllegalArgumentException") ∈ gw := gw_of 225 rfl rfl
theorem gm_226 : (Jvm.Cond.methodLink "TwinCoresLaw" (7 : Nat) ({ cls := "TwinCores", name := "load", desc := "(IIIIIIII)V" } : Jvm.MethodName)) ∈ gw := gw_of 226 rfl rfl
theorem gm_227 : (Jvm.Cond.instanceMethod ({ cls := "TwinCores", name := "load", desc := "(IIIIIIII)V" } : Jvm.MethodName)) ∈ gw := gw_of 227 rfl rfl
theorem gm_228 : (Jvm.Cond.selects "TwinCores" ({ cls := "TwinCores", name := "load", desc := "(IIIIIIII)V" } : Jvm.MethodName) ({ cls := "TwinCores", name := "load", desc := "(IIIIIIII)V" } : Jvm.MethodName)) ∈ gw := gw_of 228 rfl rfl
theorem gm_229 : (Jvm.Cond.code ({ cls := "TwinCores", name := "load", desc := "(IIIIIIII)V" } : Jvm.MethodName) prog_1_method_2_code (10 : Nat) (Option.none : Option Jvm.ClassFile.FieldType)) ∈ gw := gw_of 229 rfl rfl
theorem gm_230 : (Jvm.Cond.methodLink "TwinCores" (28 : Nat) ({ cls := "TwinCores", name := "refuseUnless", desc := "(Z)V" } : Jvm.MethodName)) ∈ gw := gw_of 230 rfl rfl
theorem gm_231 : (Jvm.Cond.static ({ cls := "TwinCores", name := "refuseUnless", desc := "(Z)V" } : Jvm.MethodName)) ∈ gw := gw_of 231 rfl rfl
theorem gm_232 : (Jvm.Cond.code ({ cls := "TwinCores", name := "refuseUnless", desc := "(Z)V" } : Jvm.MethodName) prog_1_method_12_code (1 : Nat) (Option.none : Option Jvm.ClassFile.FieldType)) ∈ gw := gw_of 232 rfl rfl
theorem gm_233 : (Jvm.Cond.classLink "TwinCores" (82 : Nat) "java/lang/IndexOutOfBoundsException") ∈ gw := gw_of 233 rfl rfl
theorem gm_234 : (Jvm.Cond.instantiable "java/lang/IndexOutOfBoundsException" (6 : Nat)) ∈ gw := gw_of 234 rfl rfl
theorem gm_242 : (Jvm.Cond.selects "java/lang/IndexOutOfBoundsException" ({ cls := "java/lang/Throwable", name := "fillInStackTrace", desc := "(I)Ljava/lang/Throwable;" } : Jvm.MethodName) ({ cls := "java/lang/Throwable", name := "fillInStackTrace", desc := "(I)Ljava/lang/Throwable;" } : Jvm.MethodName)) ∈ gw := gw_of 242 rfl rfl
theorem gm_243 : (Jvm.Cond.selects "java/lang/IndexOutOfBoundsException" ({ cls := "java/lang/Throwable", name := "fillInStackTrace", desc := "()Ljava/lang/Throwable;" } : Jvm.MethodName) ({ cls := "java/lang/Throwable", name := "fillInStackTrace", desc := "()Ljava/lang/Throwable;" } : Jvm.MethodName)) ∈ gw := gw_of 243 rfl rfl
theorem gm_244 : (Jvm.Cond.lays "java/lang/IndexOutOfBoundsException" "java/lang/Throwable" "cause" "Ljava/lang/Throwable;") ∈ gw := gw_of 244 rfl rfl
theorem gm_245 : (Jvm.Cond.lays "java/lang/Throwable" "java/lang/Throwable" "cause" "Ljava/lang/Throwable;") ∈ gw := gw_of 245 rfl rfl
theorem gm_246 : (Jvm.Cond.lays "java/lang/IndexOutOfBoundsException" "java/lang/Throwable" "stackTrace" "[Ljava/lang/StackTraceElement;") ∈ gw := gw_of 246 rfl rfl
theorem gm_247 : (Jvm.Cond.lays "java/lang/Throwable" "java/lang/Throwable" "stackTrace" "[Ljava/lang/StackTraceElement;") ∈ gw := gw_of 247 rfl rfl
theorem gm_248 : (Jvm.Cond.lays "java/lang/IndexOutOfBoundsException" "java/lang/Throwable" "suppressedExceptions" "Ljava/util/List;") ∈ gw := gw_of 248 rfl rfl
theorem gm_249 : (Jvm.Cond.lays "java/lang/Throwable" "java/lang/Throwable" "suppressedExceptions" "Ljava/util/List;") ∈ gw := gw_of 249 rfl rfl
theorem gm_250 : (Jvm.Cond.lays "java/lang/IndexOutOfBoundsException" "java/lang/Throwable" "detailMessage" "Ljava/lang/String;") ∈ gw := gw_of 250 rfl rfl
theorem gm_251 : (Jvm.Cond.lays "java/lang/Throwable" "java/lang/Throwable" "detailMessage" "Ljava/lang/String;") ∈ gw := gw_of 251 rfl rfl
theorem gm_252 : (Jvm.Cond.lays "java/lang/IndexOutOfBoundsException" "java/lang/Throwable" "backtrace" "Ljava/lang/Object;") ∈ gw := gw_of 252 rfl rfl
theorem gm_253 : (Jvm.Cond.lays "java/lang/Throwable" "java/lang/Throwable" "backtrace" "Ljava/lang/Object;") ∈ gw := gw_of 253 rfl rfl
theorem gm_254 : (Jvm.Cond.fieldLink "java/lang/Throwable" (198 : Nat) "java/lang/Throwable" "backtrace" "Ljava/lang/Object;") ∈ gw := gw_of 254 rfl rfl
theorem gm_255 : (Jvm.Cond.superclass "java/lang/Throwable" "java/lang/Object") ∈ gw := gw_of 255 rfl rfl
theorem gm_256 : (Jvm.Cond.instanceMethod ({ cls := "java/lang/Throwable", name := "<init>", desc := "()V" } : Jvm.MethodName)) ∈ gw := gw_of 256 rfl rfl
theorem gm_257 : (Jvm.Cond.code ({ cls := "java/lang/Throwable", name := "<init>", desc := "()V" } : Jvm.MethodName) prog_13_method_1_code (1 : Nat) (Option.none : Option Jvm.ClassFile.FieldType)) ∈ gw := gw_of 257 rfl rfl
theorem gm_258 : (Jvm.Cond.methodLink "java/lang/Throwable" (1 : Nat) ({ cls := "java/lang/Object", name := "<init>", desc := "()V" } : Jvm.MethodName)) ∈ gw := gw_of 258 rfl rfl
theorem gm_259 : (Jvm.Cond.fieldLink "java/lang/Throwable" (13 : Nat) "java/lang/Throwable" "UNASSIGNED_STACK" "[Ljava/lang/StackTraceElement;") ∈ gw := gw_of 259 rfl rfl
theorem gm_261 : (Jvm.Cond.fieldLink "java/lang/Throwable" (20 : Nat) "java/lang/Throwable" "SUPPRESSED_SENTINEL" "Ljava/util/List;") ∈ gw := gw_of 261 rfl rfl
theorem gm_263 : (Jvm.Cond.methodLink "java/lang/Throwable" (27 : Nat) ({ cls := "java/lang/Throwable", name := "fillInStackTrace", desc := "()Ljava/lang/Throwable;" } : Jvm.MethodName)) ∈ gw := gw_of 263 rfl rfl
theorem gm_264 : (Jvm.Cond.instanceMethod ({ cls := "java/lang/Throwable", name := "fillInStackTrace", desc := "()Ljava/lang/Throwable;" } : Jvm.MethodName)) ∈ gw := gw_of 264 rfl rfl
theorem gm_266 : (Jvm.Cond.selects "java/lang/IllegalArgumentException" ({ cls := "java/lang/Throwable", name := "fillInStackTrace", desc := "()Ljava/lang/Throwable;" } : Jvm.MethodName) ({ cls := "java/lang/Throwable", name := "fillInStackTrace", desc := "()Ljava/lang/Throwable;" } : Jvm.MethodName)) ∈ gw := gw_of 266 rfl rfl
theorem gm_267 : (Jvm.Cond.codeSync ({ cls := "java/lang/Throwable", name := "fillInStackTrace", desc := "()Ljava/lang/Throwable;" } : Jvm.MethodName) prog_13_method_18_code (1 : Nat) (Option.some (Jvm.ClassFile.FieldType.object "java/lang/Throwable"))) ∈ gw := gw_of 267 rfl rfl
theorem gm_268 : (Jvm.Cond.methodLink "java/lang/Throwable" (202 : Nat) ({ cls := "java/lang/Throwable", name := "fillInStackTrace", desc := "(I)Ljava/lang/Throwable;" } : Jvm.MethodName)) ∈ gw := gw_of 268 rfl rfl
theorem gm_270 : (Jvm.Cond.instanceMethod ({ cls := "java/lang/Throwable", name := "fillInStackTrace", desc := "(I)Ljava/lang/Throwable;" } : Jvm.MethodName)) ∈ gw := gw_of 270 rfl rfl
theorem gm_271 : (Jvm.Cond.instantiable "java/lang/Throwable" (6 : Nat)) ∈ gw := gw_of 271 rfl rfl
theorem gm_272 : (Jvm.Cond.native ({ cls := "java/lang/Throwable", name := "fillInStackTrace", desc := "(I)Ljava/lang/Throwable;" } : Jvm.MethodName)) ∈ gw := gw_of 272 rfl rfl
theorem gm_274 : (Jvm.Cond.methodLink "TwinCores" (86 : Nat) ({ cls := "java/lang/IndexOutOfBoundsException", name := "<init>", desc := "(Ljava/lang/String;)V" } : Jvm.MethodName)) ∈ gw := gw_of 274 rfl rfl
theorem gm_275 : (Jvm.Cond.instanceMethod ({ cls := "java/lang/IndexOutOfBoundsException", name := "<init>", desc := "(Ljava/lang/String;)V" } : Jvm.MethodName)) ∈ gw := gw_of 275 rfl rfl
theorem gm_276 : (Jvm.Cond.code ({ cls := "java/lang/IndexOutOfBoundsException", name := "<init>", desc := "(Ljava/lang/String;)V" } : Jvm.MethodName) prog_10_method_2_code (2 : Nat) (Option.none : Option Jvm.ClassFile.FieldType)) ∈ gw := gw_of 276 rfl rfl
theorem gm_277 : (Jvm.Cond.methodLink "java/lang/IndexOutOfBoundsException" (7 : Nat) ({ cls := "java/lang/RuntimeException", name := "<init>", desc := "(Ljava/lang/String;)V" } : Jvm.MethodName)) ∈ gw := gw_of 277 rfl rfl
theorem gm_278 : (Jvm.Cond.instanceMethod ({ cls := "java/lang/RuntimeException", name := "<init>", desc := "(Ljava/lang/String;)V" } : Jvm.MethodName)) ∈ gw := gw_of 278 rfl rfl
theorem gm_279 : (Jvm.Cond.code ({ cls := "java/lang/RuntimeException", name := "<init>", desc := "(Ljava/lang/String;)V" } : Jvm.MethodName) prog_11_method_2_code (2 : Nat) (Option.none : Option Jvm.ClassFile.FieldType)) ∈ gw := gw_of 279 rfl rfl
theorem gm_280 : (Jvm.Cond.methodLink "java/lang/RuntimeException" (7 : Nat) ({ cls := "java/lang/Exception", name := "<init>", desc := "(Ljava/lang/String;)V" } : Jvm.MethodName)) ∈ gw := gw_of 280 rfl rfl
theorem gm_281 : (Jvm.Cond.instanceMethod ({ cls := "java/lang/Exception", name := "<init>", desc := "(Ljava/lang/String;)V" } : Jvm.MethodName)) ∈ gw := gw_of 281 rfl rfl
theorem gm_282 : (Jvm.Cond.code ({ cls := "java/lang/Exception", name := "<init>", desc := "(Ljava/lang/String;)V" } : Jvm.MethodName) prog_8_method_2_code (2 : Nat) (Option.none : Option Jvm.ClassFile.FieldType)) ∈ gw := gw_of 282 rfl rfl
theorem gm_283 : (Jvm.Cond.methodLink "java/lang/Exception" (7 : Nat) ({ cls := "java/lang/Throwable", name := "<init>", desc := "(Ljava/lang/String;)V" } : Jvm.MethodName)) ∈ gw := gw_of 283 rfl rfl
theorem gm_284 : (Jvm.Cond.instanceMethod ({ cls := "java/lang/Throwable", name := "<init>", desc := "(Ljava/lang/String;)V" } : Jvm.MethodName)) ∈ gw := gw_of 284 rfl rfl
theorem gm_285 : (Jvm.Cond.code ({ cls := "java/lang/Throwable", name := "<init>", desc := "(Ljava/lang/String;)V" } : Jvm.MethodName) prog_13_method_2_code (2 : Nat) (Option.none : Option Jvm.ClassFile.FieldType)) ∈ gw := gw_of 285 rfl rfl
theorem gm_287 : (Jvm.Cond.fieldLink "java/lang/Throwable" (31 : Nat) "java/lang/Throwable" "detailMessage" "Ljava/lang/String;") ∈ gw := gw_of 287 rfl rfl
theorem gm_288 : (Jvm.Cond.fieldLink "java/lang/Throwable" (7 : Nat) "java/lang/Throwable" "cause" "Ljava/lang/Throwable;") ∈ gw := gw_of 288 rfl rfl
theorem gm_289 : (Jvm.Cond.fieldLink "java/lang/Throwable" (17 : Nat) "java/lang/Throwable" "stackTrace" "[Ljava/lang/StackTraceElement;") ∈ gw := gw_of 289 rfl rfl
theorem gm_290 : (Jvm.Cond.fieldLink "java/lang/Throwable" (24 : Nat) "java/lang/Throwable" "suppressedExceptions" "Ljava/util/List;") ∈ gw := gw_of 290 rfl rfl
theorem gm_291 : (Jvm.Cond.soleField "java/lang/Throwable" "backtrace") ∈ gw := gw_of 291 rfl rfl
theorem gm_292 : (Jvm.Cond.soleField "java/lang/Throwable" "detailMessage") ∈ gw := gw_of 292 rfl rfl
theorem gm_293 : (Jvm.Cond.soleField "java/lang/Throwable" "cause") ∈ gw := gw_of 293 rfl rfl
theorem gm_294 : (Jvm.Cond.soleField "java/lang/Throwable" "stackTrace") ∈ gw := gw_of 294 rfl rfl
theorem gm_295 : (Jvm.Cond.lays "java/lang/IndexOutOfBoundsException" "java/lang/Throwable" "depth" "I") ∈ gw := gw_of 295 rfl rfl
theorem gm_296 : (Jvm.Cond.soleField "java/lang/Throwable" "depth") ∈ gw := gw_of 296 rfl rfl
theorem gm_297 : (Jvm.Cond.soleField "java/lang/Throwable" "suppressedExceptions") ∈ gw := gw_of 297 rfl rfl
theorem gm_298 : (Jvm.Cond.superclass "java/lang/IndexOutOfBoundsException" "java/lang/RuntimeException") ∈ gw := gw_of 298 rfl rfl
theorem gm_299 : (Jvm.Cond.arrayClass Jvm.ClassFile.FieldType.byte) ∈ gw := gw_of 299 rfl rfl
theorem gm_300 : (Jvm.Cond.constant "TwinCores" (32 : Nat) (65535 : Int32)) ∈ gw := gw_of 300 rfl rfl
set_option maxRecDepth 20000 in
theorem gm_301 : (Jvm.Cond.classLink "TwinCores" (33 : Nat) "java/lang/IllegalArgumentException") ∈ gw := gw_of 301 rfl rfl
set_option maxRecDepth 20000 in
theorem gm_302 : (Jvm.Cond.instantiable "java/lang/IllegalArgumentException" (6 : Nat)) ∈ gw := gw_of 302 rfl rfl
set_option maxRecDepth 20000 in
theorem gm_304 : (Jvm.Cond.selects "java/lang/IllegalArgumentException" ({ cls := "java/lang/Throwable", name := "fillInStackTrace", desc := "(I)Ljava/lang/Throwable;" } : Jvm.MethodName) ({ cls := "java/lang/Throwable", name := "fillInStackTrace", desc := "(I)Ljava/lang/Throwable;" } : Jvm.MethodName)) ∈ gw := gw_of 304 rfl rfl
set_option maxRecDepth 20000 in
theorem gm_305 : (Jvm.Cond.lays "java/lang/IllegalArgumentException" "java/lang/Throwable" "cause" "Ljava/lang/Throwable;") ∈ gw := gw_of 305 rfl rfl
set_option maxRecDepth 20000 in
theorem gm_306 : (Jvm.Cond.lays "java/lang/IllegalArgumentException" "java/lang/Throwable" "stackTrace" "[Ljava/lang/StackTraceElement;") ∈ gw := gw_of 306 rfl rfl
set_option maxRecDepth 20000 in
theorem gm_307 : (Jvm.Cond.lays "java/lang/IllegalArgumentException" "java/lang/Throwable" "suppressedExceptions" "Ljava/util/List;") ∈ gw := gw_of 307 rfl rfl
set_option maxRecDepth 20000 in
theorem gm_308 : (Jvm.Cond.lays "java/lang/IllegalArgumentException" "java/lang/Throwable" "detailMessage" "Ljava/lang/String;") ∈ gw := gw_of 308 rfl rfl
set_option maxRecDepth 20000 in
theorem gm_309 : (Jvm.Cond.lays "java/lang/IllegalArgumentException" "java/lang/Throwable" "backtrace" "Ljava/lang/Object;") ∈ gw := gw_of 309 rfl rfl
set_option maxRecDepth 20000 in
theorem gm_311 : (Jvm.Cond.methodLink "TwinCores" (37 : Nat) ({ cls := "java/lang/IllegalArgumentException", name := "<init>", desc := "(Ljava/lang/String;)V" } : Jvm.MethodName)) ∈ gw := gw_of 311 rfl rfl
set_option maxRecDepth 20000 in
theorem gm_312 : (Jvm.Cond.instanceMethod ({ cls := "java/lang/IllegalArgumentException", name := "<init>", desc := "(Ljava/lang/String;)V" } : Jvm.MethodName)) ∈ gw := gw_of 312 rfl rfl
set_option maxRecDepth 20000 in
theorem gm_313 : (Jvm.Cond.code ({ cls := "java/lang/IllegalArgumentException", name := "<init>", desc := "(Ljava/lang/String;)V" } : Jvm.MethodName) prog_9_method_2_code (2 : Nat) (Option.none : Option Jvm.ClassFile.FieldType)) ∈ gw := gw_of 313 rfl rfl
set_option maxRecDepth 20000 in
theorem gm_314 : (Jvm.Cond.methodLink "java/lang/IllegalArgumentException" (7 : Nat) ({ cls := "java/lang/RuntimeException", name := "<init>", desc := "(Ljava/lang/String;)V" } : Jvm.MethodName)) ∈ gw := gw_of 314 rfl rfl
set_option maxRecDepth 20000 in
theorem gm_315 : (Jvm.Cond.lays "java/lang/IllegalArgumentException" "java/lang/Throwable" "depth" "I") ∈ gw := gw_of 315 rfl rfl
set_option maxRecDepth 20000 in
theorem gm_316 : (Jvm.Cond.superclass "java/lang/IllegalArgumentException" "java/lang/RuntimeException") ∈ gw := gw_of 316 rfl rfl
set_option maxRecDepth 20000 in
theorem gm_317 : (Jvm.Cond.methodLink "TwinCores" (40 : Nat) ({ cls := "TwinCores", name := "machineOf", desc := "(I)LTwinCores$Machine;" } : Jvm.MethodName)) ∈ gw := gw_of 317 rfl rfl
set_option maxRecDepth 20000 in
theorem gm_319 : (Jvm.Cond.instanceMethod ({ cls := "TwinCores", name := "machineOf", desc := "(I)LTwinCores$Machine;" } : Jvm.MethodName)) ∈ gw := gw_of 319 rfl rfl
set_option maxRecDepth 20000 in
theorem gm_320 : (Jvm.Cond.code ({ cls := "TwinCores", name := "machineOf", desc := "(I)LTwinCores$Machine;" } : Jvm.MethodName) prog_1_method_11_code (2 : Nat) (Option.some (Jvm.ClassFile.FieldType.object "TwinCores$Machine"))) ∈ gw := gw_of 320 rfl rfl
set_option maxRecDepth 20000 in
theorem gm_321 : (Jvm.Cond.methodLink "TwinCores" (44 : Nat) ({ cls := "TwinCores$Machine", name := "keep", desc := "(III)V" } : Jvm.MethodName)) ∈ gw := gw_of 321 rfl rfl
set_option maxRecDepth 20000 in
theorem gm_322 : (Jvm.Cond.instanceMethod ({ cls := "TwinCores$Machine", name := "keep", desc := "(III)V" } : Jvm.MethodName)) ∈ gw := gw_of 322 rfl rfl
set_option maxRecDepth 20000 in
theorem gm_323 : (Jvm.Cond.selects "TwinCores$Machine" ({ cls := "TwinCores$Machine", name := "keep", desc := "(III)V" } : Jvm.MethodName) ({ cls := "TwinCores$Machine", name := "keep", desc := "(III)V" } : Jvm.MethodName)) ∈ gw := gw_of 323 rfl rfl
set_option maxRecDepth 20000 in
theorem gm_324 : (Jvm.Cond.code ({ cls := "TwinCores$Machine", name := "keep", desc := "(III)V" } : Jvm.MethodName) prog_3_method_3_code (5 : Nat) (Option.none : Option Jvm.ClassFile.FieldType)) ∈ gw := gw_of 324 rfl rfl
set_option maxRecDepth 20000 in
theorem gm_325 : (Jvm.Cond.methodLink "TwinCoresLaw" (51 : Nat) ({ cls := "TwinCoresLaw", name := "byteAt", desc := "(LTwinCores;II[J)I" } : Jvm.MethodName)) ∈ gw := gw_of 325 rfl rfl
set_option maxRecDepth 20000 in
theorem gm_326 : (Jvm.Cond.static ({ cls := "TwinCoresLaw", name := "byteAt", desc := "(LTwinCores;II[J)I" } : Jvm.MethodName)) ∈ gw := gw_of 326 rfl rfl
set_option maxRecDepth 20000 in
theorem gm_327 : (Jvm.Cond.codeWith ({ cls := "TwinCoresLaw", name := "byteAt", desc := "(LTwinCores;II[J)I" } : Jvm.MethodName) method_4_code (5 : Nat) (Option.some Jvm.ClassFile.FieldType.int) [((0 : Nat), (10 : Nat), (13 : Nat), (13 : Nat))]) ∈ gw := gw_of 327 rfl rfl
set_option maxRecDepth 20000 in
theorem gm_328 : (Jvm.Cond.methodLink "TwinCoresLaw" (17 : Nat) ({ cls := "TwinCores", name := "byteAt", desc := "(II)I" } : Jvm.MethodName)) ∈ gw := gw_of 328 rfl rfl
set_option maxRecDepth 20000 in
theorem gm_329 : (Jvm.Cond.instanceMethod ({ cls := "TwinCores", name := "byteAt", desc := "(II)I" } : Jvm.MethodName)) ∈ gw := gw_of 329 rfl rfl
set_option maxRecDepth 20000 in
theorem gm_330 : (Jvm.Cond.selects "TwinCores" ({ cls := "TwinCores", name := "byteAt", desc := "(II)I" } : Jvm.MethodName) ({ cls := "TwinCores", name := "byteAt", desc := "(II)I" } : Jvm.MethodName)) ∈ gw := gw_of 330 rfl rfl
set_option maxRecDepth 20000 in
theorem gm_331 : (Jvm.Cond.code ({ cls := "TwinCores", name := "byteAt", desc := "(II)I" } : Jvm.MethodName) prog_1_method_3_code (3 : Nat) (Option.some Jvm.ClassFile.FieldType.int)) ∈ gw := gw_of 331 rfl rfl
set_option maxRecDepth 20000 in
theorem gm_332 : (Jvm.Cond.methodLink "TwinCores" (48 : Nat) ({ cls := "TwinCores$Machine", name := "kept", desc := "(I)I" } : Jvm.MethodName)) ∈ gw := gw_of 332 rfl rfl
set_option maxRecDepth 20000 in
theorem gm_333 : (Jvm.Cond.instanceMethod ({ cls := "TwinCores$Machine", name := "kept", desc := "(I)I" } : Jvm.MethodName)) ∈ gw := gw_of 333 rfl rfl
set_option maxRecDepth 20000 in
theorem gm_334 : (Jvm.Cond.selects "TwinCores$Machine" ({ cls := "TwinCores$Machine", name := "kept", desc := "(I)I" } : Jvm.MethodName) ({ cls := "TwinCores$Machine", name := "kept", desc := "(I)I" } : Jvm.MethodName)) ∈ gw := gw_of 334 rfl rfl
set_option maxRecDepth 20000 in
theorem gm_335 : (Jvm.Cond.code ({ cls := "TwinCores$Machine", name := "kept", desc := "(I)I" } : Jvm.MethodName) prog_3_method_4_code (2 : Nat) (Option.some Jvm.ClassFile.FieldType.int)) ∈ gw := gw_of 335 rfl rfl
set_option maxRecDepth 20000 in
theorem gm_336 : (Jvm.Cond.methodLink "TwinCoresLaw" (55 : Nat) ({ cls := "TwinCoresLaw", name := "reset", desc := "(LTwinCores;I)I" } : Jvm.MethodName)) ∈ gw := gw_of 336 rfl rfl
set_option maxRecDepth 20000 in
theorem gm_337 : (Jvm.Cond.static ({ cls := "TwinCoresLaw", name := "reset", desc := "(LTwinCores;I)I" } : Jvm.MethodName)) ∈ gw := gw_of 337 rfl rfl
set_option maxRecDepth 20000 in
theorem gm_338 : (Jvm.Cond.codeWith ({ cls := "TwinCoresLaw", name := "reset", desc := "(LTwinCores;I)I" } : Jvm.MethodName) method_5_code (3 : Nat) (Option.some Jvm.ClassFile.FieldType.int) [((0 : Nat), (5 : Nat), (8 : Nat), (13 : Nat))]) ∈ gw := gw_of 338 rfl rfl
set_option maxRecDepth 20000 in
theorem gm_339 : (Jvm.Cond.methodLink "TwinCoresLaw" (21 : Nat) ({ cls := "TwinCores", name := "reset", desc := "(I)V" } : Jvm.MethodName)) ∈ gw := gw_of 339 rfl rfl
set_option maxRecDepth 20000 in
theorem gm_340 : (Jvm.Cond.instanceMethod ({ cls := "TwinCores", name := "reset", desc := "(I)V" } : Jvm.MethodName)) ∈ gw := gw_of 340 rfl rfl
set_option maxRecDepth 20000 in
theorem gm_341 : (Jvm.Cond.selects "TwinCores" ({ cls := "TwinCores", name := "reset", desc := "(I)V" } : Jvm.MethodName) ({ cls := "TwinCores", name := "reset", desc := "(I)V" } : Jvm.MethodName)) ∈ gw := gw_of 341 rfl rfl
set_option maxRecDepth 20000 in
theorem gm_342 : (Jvm.Cond.code ({ cls := "TwinCores", name := "reset", desc := "(I)V" } : Jvm.MethodName) prog_1_method_4_code (2 : Nat) (Option.none : Option Jvm.ClassFile.FieldType)) ∈ gw := gw_of 342 rfl rfl
set_option maxRecDepth 20000 in
theorem gm_343 : (Jvm.Cond.methodLink "TwinCores" (52 : Nat) ({ cls := "TwinCores$Machine", name := "restart", desc := "()V" } : Jvm.MethodName)) ∈ gw := gw_of 343 rfl rfl
set_option maxRecDepth 20000 in
theorem gm_344 : (Jvm.Cond.instanceMethod ({ cls := "TwinCores$Machine", name := "restart", desc := "()V" } : Jvm.MethodName)) ∈ gw := gw_of 344 rfl rfl
set_option maxRecDepth 20000 in
theorem gm_345 : (Jvm.Cond.selects "TwinCores$Machine" ({ cls := "TwinCores$Machine", name := "restart", desc := "()V" } : Jvm.MethodName) ({ cls := "TwinCores$Machine", name := "restart", desc := "()V" } : Jvm.MethodName)) ∈ gw := gw_of 345 rfl rfl
set_option maxRecDepth 20000 in
theorem gm_346 : (Jvm.Cond.code ({ cls := "TwinCores$Machine", name := "restart", desc := "()V" } : Jvm.MethodName) prog_3_method_9_code (1 : Nat) (Option.none : Option Jvm.ClassFile.FieldType)) ∈ gw := gw_of 346 rfl rfl
set_option maxRecDepth 20000 in
theorem gm_347 : (Jvm.Cond.constant "TwinCores$Machine" (77 : Nat) (65532 : Int32)) ∈ gw := gw_of 347 rfl rfl
set_option maxRecDepth 20000 in
theorem gm_348 : (Jvm.Cond.methodLink "TwinCores$Machine" (78 : Nat) ({ cls := "TwinCores$Machine", name := "keptWord", desc := "(I)I" } : Jvm.MethodName)) ∈ gw := gw_of 348 rfl rfl
set_option maxRecDepth 20000 in
theorem gm_350 : (Jvm.Cond.instanceMethod ({ cls := "TwinCores$Machine", name := "keptWord", desc := "(I)I" } : Jvm.MethodName)) ∈ gw := gw_of 350 rfl rfl
set_option maxRecDepth 20000 in
theorem gm_351 : (Jvm.Cond.code ({ cls := "TwinCores$Machine", name := "keptWord", desc := "(I)I" } : Jvm.MethodName) prog_3_method_5_code (2 : Nat) (Option.some Jvm.ClassFile.FieldType.int)) ∈ gw := gw_of 351 rfl rfl
set_option maxRecDepth 20000 in
theorem gm_352 : (Jvm.Cond.methodLink "TwinCores$Machine" (63 : Nat) ({ cls := "TwinCores$Machine", name := "kept", desc := "(I)I" } : Jvm.MethodName)) ∈ gw := gw_of 352 rfl rfl
set_option maxRecDepth 20000 in
theorem gm_353 : (Jvm.Cond.methodLink "TwinCores$Machine" (81 : Nat) ({ cls := "TwinCores$Unit", name := "nmi", desc := "(I)Z" } : Jvm.MethodName)) ∈ gw := gw_of 353 rfl rfl
set_option maxRecDepth 20000 in
theorem gm_354 : (Jvm.Cond.instanceMethod ({ cls := "TwinCores$Unit", name := "nmi", desc := "(I)Z" } : Jvm.MethodName)) ∈ gw := gw_of 354 rfl rfl
set_option maxRecDepth 20000 in
theorem gm_355 : (Jvm.Cond.selects "TwinCores$Unit" ({ cls := "TwinCores$Unit", name := "nmi", desc := "(I)Z" } : Jvm.MethodName) ({ cls := "TwinCores$Unit", name := "nmi", desc := "(I)Z" } : Jvm.MethodName)) ∈ gw := gw_of 355 rfl rfl
set_option maxRecDepth 20000 in
theorem gm_356 : (Jvm.Cond.code ({ cls := "TwinCores$Unit", name := "nmi", desc := "(I)Z" } : Jvm.MethodName) prog_5_method_8_code (2 : Nat) (Option.some Jvm.ClassFile.FieldType.boolean)) ∈ gw := gw_of 356 rfl rfl
set_option maxRecDepth 20000 in
theorem gm_357 : (Jvm.Cond.methodLink "TwinCores$Unit" (61 : Nat) ({ cls := "TwinCores$Unit", name := "waiting", desc := "(II)I" } : Jvm.MethodName)) ∈ gw := gw_of 357 rfl rfl
set_option maxRecDepth 20000 in
theorem gm_358 : (Jvm.Cond.instanceMethod ({ cls := "TwinCores$Unit", name := "waiting", desc := "(II)I" } : Jvm.MethodName)) ∈ gw := gw_of 358 rfl rfl
set_option maxRecDepth 20000 in
theorem gm_359 : (Jvm.Cond.selects "TwinCores$Unit" ({ cls := "TwinCores$Unit", name := "waiting", desc := "(II)I" } : Jvm.MethodName) ({ cls := "TwinCores$Unit", name := "waiting", desc := "(II)I" } : Jvm.MethodName)) ∈ gw := gw_of 359 rfl rfl
set_option maxRecDepth 20000 in
theorem gm_360 : (Jvm.Cond.code ({ cls := "TwinCores$Unit", name := "waiting", desc := "(II)I" } : Jvm.MethodName) prog_5_method_6_code (3 : Nat) (Option.some Jvm.ClassFile.FieldType.int)) ∈ gw := gw_of 360 rfl rfl
set_option maxRecDepth 20000 in
theorem gm_361 : (Jvm.Cond.methodLink "TwinCoresLaw" (59 : Nat) ({ cls := "TwinCoresLaw", name := "run", desc := "(LTwinCores;II[J)I" } : Jvm.MethodName)) ∈ gw := gw_of 361 rfl rfl
set_option maxRecDepth 20000 in
theorem gm_362 : (Jvm.Cond.static ({ cls := "TwinCoresLaw", name := "run", desc := "(LTwinCores;II[J)I" } : Jvm.MethodName)) ∈ gw := gw_of 362 rfl rfl
set_option maxRecDepth 20000 in
theorem gm_363 : (Jvm.Cond.codeWith ({ cls := "TwinCoresLaw", name := "run", desc := "(LTwinCores;II[J)I" } : Jvm.MethodName) method_6_code (5 : Nat) (Option.some Jvm.ClassFile.FieldType.int) [((0 : Nat), (10 : Nat), (13 : Nat), (15 : Nat))]) ∈ gw := gw_of 363 rfl rfl
set_option maxRecDepth 20000 in
theorem gm_364 : (Jvm.Cond.methodLink "TwinCoresLaw" (25 : Nat) ({ cls := "TwinCores", name := "run", desc := "(II)I" } : Jvm.MethodName)) ∈ gw := gw_of 364 rfl rfl
set_option maxRecDepth 20000 in
theorem gm_365 : (Jvm.Cond.instanceMethod ({ cls := "TwinCores", name := "run", desc := "(II)I" } : Jvm.MethodName)) ∈ gw := gw_of 365 rfl rfl
set_option maxRecDepth 20000 in
theorem gm_366 : (Jvm.Cond.selects "TwinCores" ({ cls := "TwinCores", name := "run", desc := "(II)I" } : Jvm.MethodName) ({ cls := "TwinCores", name := "run", desc := "(II)I" } : Jvm.MethodName)) ∈ gw := gw_of 366 rfl rfl
set_option maxRecDepth 20000 in
theorem gm_367 : (Jvm.Cond.code ({ cls := "TwinCores", name := "run", desc := "(II)I" } : Jvm.MethodName) prog_1_method_5_code (5 : Nat) (Option.some Jvm.ClassFile.FieldType.int)) ∈ gw := gw_of 367 rfl rfl
set_option maxRecDepth 20000 in
theorem gm_369 : (Jvm.Cond.methodLink "TwinCores" (57 : Nat) ({ cls := "TwinCores$Machine", name := "countsAsStanding", desc := "()Z" } : Jvm.MethodName)) ∈ gw := gw_of 369 rfl rfl
set_option maxRecDepth 20000 in
theorem gm_370 : (Jvm.Cond.instanceMethod ({ cls := "TwinCores$Machine", name := "countsAsStanding", desc := "()Z" } : Jvm.MethodName)) ∈ gw := gw_of 370 rfl rfl
set_option maxRecDepth 20000 in
theorem gm_371 : (Jvm.Cond.selects "TwinCores$Machine" ({ cls := "TwinCores$Machine", name := "countsAsStanding", desc := "()Z" } : Jvm.MethodName) ({ cls := "TwinCores$Machine", name := "countsAsStanding", desc := "()Z" } : Jvm.MethodName)) ∈ gw := gw_of 371 rfl rfl
set_option maxRecDepth 20000 in
theorem gm_372 : (Jvm.Cond.code ({ cls := "TwinCores$Machine", name := "countsAsStanding", desc := "()Z" } : Jvm.MethodName) prog_3_method_8_code (1 : Nat) (Option.some Jvm.ClassFile.FieldType.boolean)) ∈ gw := gw_of 372 rfl rfl
set_option maxRecDepth 20000 in
theorem gm_373 : (Jvm.Cond.methodLink "TwinCores$Machine" (71 : Nat) ({ cls := "TwinCores$Unit", name := "resetComes", desc := "(I)Z" } : Jvm.MethodName)) ∈ gw := gw_of 373 rfl rfl
set_option maxRecDepth 20000 in
theorem gm_374 : (Jvm.Cond.instanceMethod ({ cls := "TwinCores$Unit", name := "resetComes", desc := "(I)Z" } : Jvm.MethodName)) ∈ gw := gw_of 374 rfl rfl
set_option maxRecDepth 20000 in
theorem gm_375 : (Jvm.Cond.selects "TwinCores$Unit" ({ cls := "TwinCores$Unit", name := "resetComes", desc := "(I)Z" } : Jvm.MethodName) ({ cls := "TwinCores$Unit", name := "resetComes", desc := "(I)Z" } : Jvm.MethodName)) ∈ gw := gw_of 375 rfl rfl
set_option maxRecDepth 20000 in
theorem gm_376 : (Jvm.Cond.code ({ cls := "TwinCores$Unit", name := "resetComes", desc := "(I)Z" } : Jvm.MethodName) prog_5_method_10_code (2 : Nat) (Option.some Jvm.ClassFile.FieldType.boolean)) ∈ gw := gw_of 376 rfl rfl
set_option maxRecDepth 20000 in
theorem gm_377 : (Jvm.Cond.methodLink "TwinCores" (61 : Nat) ({ cls := "TwinCores$Machine", name := "step", desc := "()V" } : Jvm.MethodName)) ∈ gw := gw_of 377 rfl rfl
set_option maxRecDepth 20000 in
theorem gm_378 : (Jvm.Cond.instanceMethod ({ cls := "TwinCores$Machine", name := "step", desc := "()V" } : Jvm.MethodName)) ∈ gw := gw_of 378 rfl rfl
set_option maxRecDepth 20000 in
theorem gm_379 : (Jvm.Cond.selects "TwinCores$Machine" ({ cls := "TwinCores$Machine", name := "step", desc := "()V" } : Jvm.MethodName) ({ cls := "TwinCores$Machine", name := "step", desc := "()V" } : Jvm.MethodName)) ∈ gw := gw_of 379 rfl rfl
set_option maxRecDepth 20000 in
theorem gm_380 : (Jvm.Cond.code ({ cls := "TwinCores$Machine", name := "step", desc := "()V" } : Jvm.MethodName) prog_3_method_10_code (1 : Nat) (Option.none : Option Jvm.ClassFile.FieldType)) ∈ gw := gw_of 380 rfl rfl
set_option maxRecDepth 20000 in
theorem gm_381 : (Jvm.Cond.methodLink "TwinCores$Machine" (84 : Nat) ({ cls := "TwinCores$Unit", name := "endReset", desc := "()V" } : Jvm.MethodName)) ∈ gw := gw_of 381 rfl rfl
set_option maxRecDepth 20000 in
theorem gm_382 : (Jvm.Cond.instanceMethod ({ cls := "TwinCores$Unit", name := "endReset", desc := "()V" } : Jvm.MethodName)) ∈ gw := gw_of 382 rfl rfl
set_option maxRecDepth 20000 in
theorem gm_383 : (Jvm.Cond.selects "TwinCores$Unit" ({ cls := "TwinCores$Unit", name := "endReset", desc := "()V" } : Jvm.MethodName) ({ cls := "TwinCores$Unit", name := "endReset", desc := "()V" } : Jvm.MethodName)) ∈ gw := gw_of 383 rfl rfl
set_option maxRecDepth 20000 in
theorem gm_384 : (Jvm.Cond.code ({ cls := "TwinCores$Unit", name := "endReset", desc := "()V" } : Jvm.MethodName) prog_5_method_11_code (1 : Nat) (Option.none : Option Jvm.ClassFile.FieldType)) ∈ gw := gw_of 384 rfl rfl
set_option maxRecDepth 20000 in
theorem gm_385 : (Jvm.Cond.methodLink "TwinCores$Machine" (87 : Nat) ({ cls := "TwinCores$Machine", name := "restart", desc := "()V" } : Jvm.MethodName)) ∈ gw := gw_of 385 rfl rfl
set_option maxRecDepth 20000 in
theorem gm_386 : (Jvm.Cond.methodLink "TwinCores$Machine" (90 : Nat) ({ cls := "TwinCores$Unit", name := "holds", desc := "(I)Z" } : Jvm.MethodName)) ∈ gw := gw_of 386 rfl rfl
set_option maxRecDepth 20000 in
theorem gm_387 : (Jvm.Cond.instanceMethod ({ cls := "TwinCores$Unit", name := "holds", desc := "(I)Z" } : Jvm.MethodName)) ∈ gw := gw_of 387 rfl rfl
set_option maxRecDepth 20000 in
theorem gm_388 : (Jvm.Cond.selects "TwinCores$Unit" ({ cls := "TwinCores$Unit", name := "holds", desc := "(I)Z" } : Jvm.MethodName) ({ cls := "TwinCores$Unit", name := "holds", desc := "(I)Z" } : Jvm.MethodName)) ∈ gw := gw_of 388 rfl rfl
set_option maxRecDepth 20000 in
theorem gm_389 : (Jvm.Cond.code ({ cls := "TwinCores$Unit", name := "holds", desc := "(I)Z" } : Jvm.MethodName) prog_5_method_9_code (2 : Nat) (Option.some Jvm.ClassFile.FieldType.boolean)) ∈ gw := gw_of 389 rfl rfl
set_option maxRecDepth 20000 in
theorem gm_390 : (Jvm.Cond.methodLink "TwinCores$Machine" (93 : Nat) ({ cls := "TwinCores$Machine", name := "breaksIn", desc := "()Z" } : Jvm.MethodName)) ∈ gw := gw_of 390 rfl rfl
set_option maxRecDepth 20000 in
theorem gm_392 : (Jvm.Cond.instanceMethod ({ cls := "TwinCores$Machine", name := "breaksIn", desc := "()Z" } : Jvm.MethodName)) ∈ gw := gw_of 392 rfl rfl
set_option maxRecDepth 20000 in
theorem gm_393 : (Jvm.Cond.code ({ cls := "TwinCores$Machine", name := "breaksIn", desc := "()Z" } : Jvm.MethodName) prog_3_method_11_code (3 : Nat) (Option.some Jvm.ClassFile.FieldType.boolean)) ∈ gw := gw_of 393 rfl rfl
set_option maxRecDepth 20000 in
theorem gm_394 : (Jvm.Cond.constant "TwinCores$Machine" (99 : Nat) (65530 : Int32)) ∈ gw := gw_of 394 rfl rfl
set_option maxRecDepth 20000 in
theorem gm_395 : (Jvm.Cond.methodLink "TwinCores$Machine" (100 : Nat) ({ cls := "TwinCores$Machine", name := "breakTo", desc := "(III)V" } : Jvm.MethodName)) ∈ gw := gw_of 395 rfl rfl
set_option maxRecDepth 20000 in
theorem gm_397 : (Jvm.Cond.instanceMethod ({ cls := "TwinCores$Machine", name := "breakTo", desc := "(III)V" } : Jvm.MethodName)) ∈ gw := gw_of 397 rfl rfl
set_option maxRecDepth 20000 in
theorem gm_398 : (Jvm.Cond.code ({ cls := "TwinCores$Machine", name := "breakTo", desc := "(III)V" } : Jvm.MethodName) prog_3_method_12_code (4 : Nat) (Option.none : Option Jvm.ClassFile.FieldType)) ∈ gw := gw_of 398 rfl rfl
set_option maxRecDepth 20000 in
theorem gm_399 : (Jvm.Cond.methodLink "TwinCores$Machine" (108 : Nat) ({ cls := "TwinCores$Machine", name := "pushWord", desc := "(I)V" } : Jvm.MethodName)) ∈ gw := gw_of 399 rfl rfl
set_option maxRecDepth 20000 in
theorem gm_401 : (Jvm.Cond.instanceMethod ({ cls := "TwinCores$Machine", name := "pushWord", desc := "(I)V" } : Jvm.MethodName)) ∈ gw := gw_of 401 rfl rfl
set_option maxRecDepth 20000 in
theorem gm_402 : (Jvm.Cond.code ({ cls := "TwinCores$Machine", name := "pushWord", desc := "(I)V" } : Jvm.MethodName) prog_3_method_35_code (2 : Nat) (Option.none : Option Jvm.ClassFile.FieldType)) ∈ gw := gw_of 402 rfl rfl
set_option maxRecDepth 20000 in
theorem gm_403 : (Jvm.Cond.methodLink "TwinCores$Machine" (112 : Nat) ({ cls := "TwinCores$Machine", name := "push", desc := "(I)V" } : Jvm.MethodName)) ∈ gw := gw_of 403 rfl rfl
set_option maxRecDepth 20000 in
theorem gm_405 : (Jvm.Cond.instanceMethod ({ cls := "TwinCores$Machine", name := "push", desc := "(I)V" } : Jvm.MethodName)) ∈ gw := gw_of 405 rfl rfl
set_option maxRecDepth 20000 in
theorem gm_406 : (Jvm.Cond.code ({ cls := "TwinCores$Machine", name := "push", desc := "(I)V" } : Jvm.MethodName) prog_3_method_34_code (2 : Nat) (Option.none : Option Jvm.ClassFile.FieldType)) ∈ gw := gw_of 406 rfl rfl
set_option maxRecDepth 20000 in
theorem gm_407 : (Jvm.Cond.methodLink "TwinCores$Machine" (104 : Nat) ({ cls := "TwinCores$Unit", name := "irq", desc := "(I)Z" } : Jvm.MethodName)) ∈ gw := gw_of 407 rfl rfl
set_option maxRecDepth 20000 in
theorem gm_408 : (Jvm.Cond.instanceMethod ({ cls := "TwinCores$Unit", name := "irq", desc := "(I)Z" } : Jvm.MethodName)) ∈ gw := gw_of 408 rfl rfl
set_option maxRecDepth 20000 in
theorem gm_409 : (Jvm.Cond.selects "TwinCores$Unit" ({ cls := "TwinCores$Unit", name := "irq", desc := "(I)Z" } : Jvm.MethodName) ({ cls := "TwinCores$Unit", name := "irq", desc := "(I)Z" } : Jvm.MethodName)) ∈ gw := gw_of 409 rfl rfl
set_option maxRecDepth 20000 in
theorem gm_410 : (Jvm.Cond.code ({ cls := "TwinCores$Unit", name := "irq", desc := "(I)Z" } : Jvm.MethodName) prog_5_method_7_code (2 : Nat) (Option.some Jvm.ClassFile.FieldType.boolean)) ∈ gw := gw_of 410 rfl rfl
set_option maxRecDepth 20000 in
theorem gm_411 : (Jvm.Cond.constant "TwinCores$Machine" (107 : Nat) (65534 : Int32)) ∈ gw := gw_of 411 rfl rfl
set_option maxRecDepth 20000 in
theorem gm_412 : (Jvm.Cond.methodLink "TwinCores$Machine" (96 : Nat) ({ cls := "TwinCores$Machine", name := "instruction", desc := "()V" } : Jvm.MethodName)) ∈ gw := gw_of 412 rfl rfl
set_option maxRecDepth 20000 in
theorem gm_414 : (Jvm.Cond.instanceMethod ({ cls := "TwinCores$Machine", name := "instruction", desc := "()V" } : Jvm.MethodName)) ∈ gw := gw_of 414 rfl rfl
set_option maxRecDepth 20000 in
theorem gm_415 : (Jvm.Cond.code ({ cls := "TwinCores$Machine", name := "instruction", desc := "()V" } : Jvm.MethodName) prog_3_method_13_code (4 : Nat) (Option.none : Option Jvm.ClassFile.FieldType)) ∈ gw := gw_of 415 rfl rfl
set_option maxRecDepth 20000 in
theorem gm_416 : (Jvm.Cond.methodLink "TwinCores$Machine" (115 : Nat) ({ cls := "TwinCores$Machine", name := "read", desc := "(I)I" } : Jvm.MethodName)) ∈ gw := gw_of 416 rfl rfl
set_option maxRecDepth 20000 in
theorem gm_418 : (Jvm.Cond.instanceMethod ({ cls := "TwinCores$Machine", name := "read", desc := "(I)I" } : Jvm.MethodName)) ∈ gw := gw_of 418 rfl rfl
set_option maxRecDepth 20000 in
theorem gm_419 : (Jvm.Cond.code ({ cls := "TwinCores$Machine", name := "read", desc := "(I)I" } : Jvm.MethodName) prog_3_method_39_code (3 : Nat) (Option.some Jvm.ClassFile.FieldType.int)) ∈ gw := gw_of 419 rfl rfl
set_option maxRecDepth 20000 in
theorem gm_420 : (Jvm.Cond.methodLink "TwinCores$Machine" (204 : Nat) ({ cls := "TwinCores$Unit", name := "status", desc := "(II)I" } : Jvm.MethodName)) ∈ gw := gw_of 420 rfl rfl
set_option maxRecDepth 20000 in
theorem gm_421 : (Jvm.Cond.instanceMethod ({ cls := "TwinCores$Unit", name := "status", desc := "(II)I" } : Jvm.MethodName)) ∈ gw := gw_of 421 rfl rfl
set_option maxRecDepth 20000 in
theorem gm_422 : (Jvm.Cond.selects "TwinCores$Unit" ({ cls := "TwinCores$Unit", name := "status", desc := "(II)I" } : Jvm.MethodName) ({ cls := "TwinCores$Unit", name := "status", desc := "(II)I" } : Jvm.MethodName)) ∈ gw := gw_of 422 rfl rfl
set_option maxRecDepth 20000 in
theorem gm_423 : (Jvm.Cond.code ({ cls := "TwinCores$Unit", name := "status", desc := "(II)I" } : Jvm.MethodName) prog_5_method_4_code (6 : Nat) (Option.some Jvm.ClassFile.FieldType.int)) ∈ gw := gw_of 423 rfl rfl
set_option maxRecDepth 20000 in
theorem gm_424 : (Jvm.Cond.methodLink "TwinCores$Machine" (207 : Nat) ({ cls := "TwinCores$Unit", name := "rowFor", desc := "(II)LTwinCores$Row;" } : Jvm.MethodName)) ∈ gw := gw_of 424 rfl rfl
set_option maxRecDepth 20000 in
theorem gm_425 : (Jvm.Cond.methodLink "TwinCores$Machine" (211 : Nat) ({ cls := "TwinCores$Row", name := "take", desc := "()I" } : Jvm.MethodName)) ∈ gw := gw_of 425 rfl rfl
set_option maxRecDepth 20000 in
theorem gm_426 : (Jvm.Cond.instanceMethod ({ cls := "TwinCores$Row", name := "take", desc := "()I" } : Jvm.MethodName)) ∈ gw := gw_of 426 rfl rfl
set_option maxRecDepth 20000 in
theorem gm_427 : (Jvm.Cond.selects "TwinCores$Row" ({ cls := "TwinCores$Row", name := "take", desc := "()I" } : Jvm.MethodName) ({ cls := "TwinCores$Row", name := "take", desc := "()I" } : Jvm.MethodName)) ∈ gw := gw_of 427 rfl rfl
set_option maxRecDepth 20000 in
theorem gm_428 : (Jvm.Cond.code ({ cls := "TwinCores$Row", name := "take", desc := "()I" } : Jvm.MethodName) prog_4_method_4_code (1 : Nat) (Option.some Jvm.ClassFile.FieldType.int)) ∈ gw := gw_of 428 rfl rfl
set_option maxRecDepth 20000 in
theorem gm_431 : (Jvm.Cond.constant "TwinCores$Machine" (123 : Nat) (65535 : Int32)) ∈ gw := gw_of 431 rfl rfl
set_option maxRecDepth 20000 in
theorem gm_434 : (Jvm.Cond.methodLink "TwinCores$Machine" (127 : Nat) ({ cls := "TwinCores$Machine", name := "placeOf", desc := "(I)I" } : Jvm.MethodName)) ∈ gw := gw_of 434 rfl rfl
set_option maxRecDepth 20000 in
theorem gm_436 : (Jvm.Cond.instanceMethod ({ cls := "TwinCores$Machine", name := "placeOf", desc := "(I)I" } : Jvm.MethodName)) ∈ gw := gw_of 436 rfl rfl
set_option maxRecDepth 20000 in
theorem gm_437 : (Jvm.Cond.code ({ cls := "TwinCores$Machine", name := "placeOf", desc := "(I)I" } : Jvm.MethodName) prog_3_method_14_code (2 : Nat) (Option.some Jvm.ClassFile.FieldType.int)) ∈ gw := gw_of 437 rfl rfl
set_option maxRecDepth 20000 in
theorem gm_438 : (Jvm.Cond.methodLink "TwinCores$Machine" (155 : Nat) ({ cls := "TwinCores$Machine", name := "placeBehind", desc := "()I" } : Jvm.MethodName)) ∈ gw := gw_of 438 rfl rfl
set_option maxRecDepth 20000 in
theorem gm_440 : (Jvm.Cond.instanceMethod ({ cls := "TwinCores$Machine", name := "placeBehind", desc := "()I" } : Jvm.MethodName)) ∈ gw := gw_of 440 rfl rfl
set_option maxRecDepth 20000 in
theorem gm_441 : (Jvm.Cond.code ({ cls := "TwinCores$Machine", name := "placeBehind", desc := "()I" } : Jvm.MethodName) prog_3_method_15_code (2 : Nat) (Option.some Jvm.ClassFile.FieldType.int)) ∈ gw := gw_of 441 rfl rfl
set_option maxRecDepth 20000 in
theorem gm_442 : (Jvm.Cond.methodLink "TwinCores$Machine" (159 : Nat) ({ cls := "TwinCores$Machine", name := "byteBehind", desc := "()I" } : Jvm.MethodName)) ∈ gw := gw_of 442 rfl rfl
set_option maxRecDepth 20000 in
theorem gm_444 : (Jvm.Cond.instanceMethod ({ cls := "TwinCores$Machine", name := "byteBehind", desc := "()I" } : Jvm.MethodName)) ∈ gw := gw_of 444 rfl rfl
set_option maxRecDepth 20000 in
theorem gm_445 : (Jvm.Cond.code ({ cls := "TwinCores$Machine", name := "byteBehind", desc := "()I" } : Jvm.MethodName) prog_3_method_16_code (1 : Nat) (Option.some Jvm.ClassFile.FieldType.int)) ∈ gw := gw_of 445 rfl rfl
set_option maxRecDepth 20000 in
theorem gm_446 : (Jvm.Cond.methodLink "TwinCores$Machine" (162 : Nat) ({ cls := "TwinCores$Machine", name := "wordAt", desc := "(I)I" } : Jvm.MethodName)) ∈ gw := gw_of 446 rfl rfl
set_option maxRecDepth 20000 in
theorem gm_448 : (Jvm.Cond.instanceMethod ({ cls := "TwinCores$Machine", name := "wordAt", desc := "(I)I" } : Jvm.MethodName)) ∈ gw := gw_of 448 rfl rfl
set_option maxRecDepth 20000 in
theorem gm_449 : (Jvm.Cond.code ({ cls := "TwinCores$Machine", name := "wordAt", desc := "(I)I" } : Jvm.MethodName) prog_3_method_18_code (3 : Nat) (Option.some Jvm.ClassFile.FieldType.int)) ∈ gw := gw_of 449 rfl rfl
set_option maxRecDepth 20000 in
theorem gm_450 : (Jvm.Cond.constant "TwinCores$Machine" (168 : Nat) (65280 : Int32)) ∈ gw := gw_of 450 rfl rfl
set_option maxRecDepth 20000 in
theorem gm_451 : (Jvm.Cond.methodLink "TwinCores$Machine" (165 : Nat) ({ cls := "TwinCores$Machine", name := "wordBehind", desc := "()I" } : Jvm.MethodName)) ∈ gw := gw_of 451 rfl rfl
set_option maxRecDepth 20000 in
theorem gm_453 : (Jvm.Cond.instanceMethod ({ cls := "TwinCores$Machine", name := "wordBehind", desc := "()I" } : Jvm.MethodName)) ∈ gw := gw_of 453 rfl rfl
set_option maxRecDepth 20000 in
theorem gm_454 : (Jvm.Cond.code ({ cls := "TwinCores$Machine", name := "wordBehind", desc := "()I" } : Jvm.MethodName) prog_3_method_17_code (2 : Nat) (Option.some Jvm.ClassFile.FieldType.int)) ∈ gw := gw_of 454 rfl rfl
set_option maxRecDepth 20000 in
theorem gm_455 : (Jvm.Cond.methodLink "TwinCores$Machine" (130 : Nat) ({ cls := "TwinCores$Machine", name := "use", desc := "(II)V" } : Jvm.MethodName)) ∈ gw := gw_of 455 rfl rfl
set_option maxRecDepth 20000 in
theorem gm_457 : (Jvm.Cond.instanceMethod ({ cls := "TwinCores$Machine", name := "use", desc := "(II)V" } : Jvm.MethodName)) ∈ gw := gw_of 457 rfl rfl
set_option maxRecDepth 20000 in
theorem gm_458 : (Jvm.Cond.code ({ cls := "TwinCores$Machine", name := "use", desc := "(II)V" } : Jvm.MethodName) prog_3_method_19_code (3 : Nat) (Option.none : Option Jvm.ClassFile.FieldType)) ∈ gw := gw_of 458 rfl rfl
set_option maxRecDepth 20000 in
theorem gm_459 : (Jvm.Cond.methodLink "TwinCores$Machine" (169 : Nat) ({ cls := "TwinCores$Machine", name := "shown", desc := "(I)I" } : Jvm.MethodName)) ∈ gw := gw_of 459 rfl rfl
set_option maxRecDepth 20000 in
theorem gm_461 : (Jvm.Cond.instanceMethod ({ cls := "TwinCores$Machine", name := "shown", desc := "(I)I" } : Jvm.MethodName)) ∈ gw := gw_of 461 rfl rfl
set_option maxRecDepth 20000 in
theorem gm_462 : (Jvm.Cond.code ({ cls := "TwinCores$Machine", name := "shown", desc := "(I)I" } : Jvm.MethodName) prog_3_method_32_code (3 : Nat) (Option.some Jvm.ClassFile.FieldType.int)) ∈ gw := gw_of 462 rfl rfl
set_option maxRecDepth 20000 in
theorem gm_463 : (Jvm.Cond.methodLink "TwinCores$Machine" (172 : Nat) ({ cls := "TwinCores$Machine", name := "add", desc := "(I)V" } : Jvm.MethodName)) ∈ gw := gw_of 463 rfl rfl
set_option maxRecDepth 20000 in
theorem gm_465 : (Jvm.Cond.instanceMethod ({ cls := "TwinCores$Machine", name := "add", desc := "(I)V" } : Jvm.MethodName)) ∈ gw := gw_of 465 rfl rfl
set_option maxRecDepth 20000 in
theorem gm_466 : (Jvm.Cond.code ({ cls := "TwinCores$Machine", name := "add", desc := "(I)V" } : Jvm.MethodName) prog_3_method_21_code (3 : Nat) (Option.none : Option Jvm.ClassFile.FieldType)) ∈ gw := gw_of 466 rfl rfl
set_option maxRecDepth 20000 in
theorem gm_467 : (Jvm.Cond.methodLink "TwinCores$Machine" (184 : Nat) ({ cls := "TwinCores$Machine", name := "setFlag", desc := "(IZ)V" } : Jvm.MethodName)) ∈ gw := gw_of 467 rfl rfl
set_option maxRecDepth 20000 in
theorem gm_469 : (Jvm.Cond.instanceMethod ({ cls := "TwinCores$Machine", name := "setFlag", desc := "(IZ)V" } : Jvm.MethodName)) ∈ gw := gw_of 469 rfl rfl
set_option maxRecDepth 20000 in
theorem gm_470 : (Jvm.Cond.code ({ cls := "TwinCores$Machine", name := "setFlag", desc := "(IZ)V" } : Jvm.MethodName) prog_3_method_33_code (3 : Nat) (Option.none : Option Jvm.ClassFile.FieldType)) ∈ gw := gw_of 470 rfl rfl
set_option maxRecDepth 20000 in
theorem gm_471 : (Jvm.Cond.methodLink "TwinCores$Machine" (175 : Nat) ({ cls := "TwinCores$Machine", name := "compare", desc := "(II)V" } : Jvm.MethodName)) ∈ gw := gw_of 471 rfl rfl
set_option maxRecDepth 20000 in
theorem gm_473 : (Jvm.Cond.instanceMethod ({ cls := "TwinCores$Machine", name := "compare", desc := "(II)V" } : Jvm.MethodName)) ∈ gw := gw_of 473 rfl rfl
set_option maxRecDepth 20000 in
theorem gm_474 : (Jvm.Cond.code ({ cls := "TwinCores$Machine", name := "compare", desc := "(II)V" } : Jvm.MethodName) prog_3_method_22_code (3 : Nat) (Option.none : Option Jvm.ClassFile.FieldType)) ∈ gw := gw_of 474 rfl rfl
set_option maxRecDepth 20000 in
theorem gm_475 : (Jvm.Cond.methodLink "TwinCores$Machine" (178 : Nat) ({ cls := "TwinCores$Machine", name := "testBits", desc := "(I)V" } : Jvm.MethodName)) ∈ gw := gw_of 475 rfl rfl
set_option maxRecDepth 20000 in
theorem gm_477 : (Jvm.Cond.instanceMethod ({ cls := "TwinCores$Machine", name := "testBits", desc := "(I)V" } : Jvm.MethodName)) ∈ gw := gw_of 477 rfl rfl
set_option maxRecDepth 20000 in
theorem gm_478 : (Jvm.Cond.code ({ cls := "TwinCores$Machine", name := "testBits", desc := "(I)V" } : Jvm.MethodName) prog_3_method_23_code (2 : Nat) (Option.none : Option Jvm.ClassFile.FieldType)) ∈ gw := gw_of 478 rfl rfl
set_option maxRecDepth 20000 in
theorem gm_479 : (Jvm.Cond.methodLink "TwinCores$Machine" (134 : Nat) ({ cls := "TwinCores$Machine", name := "store", desc := "(II)V" } : Jvm.MethodName)) ∈ gw := gw_of 479 rfl rfl
set_option maxRecDepth 20000 in
theorem gm_481 : (Jvm.Cond.instanceMethod ({ cls := "TwinCores$Machine", name := "store", desc := "(II)V" } : Jvm.MethodName)) ∈ gw := gw_of 481 rfl rfl
set_option maxRecDepth 20000 in
theorem gm_482 : (Jvm.Cond.code ({ cls := "TwinCores$Machine", name := "store", desc := "(II)V" } : Jvm.MethodName) prog_3_method_20_code (3 : Nat) (Option.none : Option Jvm.ClassFile.FieldType)) ∈ gw := gw_of 482 rfl rfl
set_option maxRecDepth 20000 in
theorem gm_483 : (Jvm.Cond.methodLink "TwinCores$Machine" (181 : Nat) ({ cls := "TwinCores$Machine", name := "write", desc := "(II)V" } : Jvm.MethodName)) ∈ gw := gw_of 483 rfl rfl
set_option maxRecDepth 20000 in
theorem gm_485 : (Jvm.Cond.instanceMethod ({ cls := "TwinCores$Machine", name := "write", desc := "(II)V" } : Jvm.MethodName)) ∈ gw := gw_of 485 rfl rfl
set_option maxRecDepth 20000 in
theorem gm_486 : (Jvm.Cond.code ({ cls := "TwinCores$Machine", name := "write", desc := "(II)V" } : Jvm.MethodName) prog_3_method_40_code (4 : Nat) (Option.none : Option Jvm.ClassFile.FieldType)) ∈ gw := gw_of 486 rfl rfl
set_option maxRecDepth 20000 in
theorem gm_487 : (Jvm.Cond.methodLink "TwinCores$Machine" (216 : Nat) ({ cls := "TwinCores$Row", name := "put", desc := "(I)V" } : Jvm.MethodName)) ∈ gw := gw_of 487 rfl rfl
set_option maxRecDepth 20000 in
theorem gm_488 : (Jvm.Cond.instanceMethod ({ cls := "TwinCores$Row", name := "put", desc := "(I)V" } : Jvm.MethodName)) ∈ gw := gw_of 488 rfl rfl
set_option maxRecDepth 20000 in
theorem gm_489 : (Jvm.Cond.selects "TwinCores$Row" ({ cls := "TwinCores$Row", name := "put", desc := "(I)V" } : Jvm.MethodName) ({ cls := "TwinCores$Row", name := "put", desc := "(I)V" } : Jvm.MethodName)) ∈ gw := gw_of 489 rfl rfl
set_option maxRecDepth 20000 in
theorem gm_490 : (Jvm.Cond.code ({ cls := "TwinCores$Row", name := "put", desc := "(I)V" } : Jvm.MethodName) prog_4_method_5_code (3 : Nat) (Option.none : Option Jvm.ClassFile.FieldType)) ∈ gw := gw_of 490 rfl rfl
set_option maxRecDepth 20000 in
theorem gm_491 : (Jvm.Cond.methodLink "TwinCores$Machine" (219 : Nat) ({ cls := "TwinCores$Unit", name := "writeFlags", desc := "(I)V" } : Jvm.MethodName)) ∈ gw := gw_of 491 rfl rfl
set_option maxRecDepth 20000 in
theorem gm_492 : (Jvm.Cond.methodLink "TwinCores$Machine" (137 : Nat) ({ cls := "TwinCores$Machine", name := "change", desc := "(II)V" } : Jvm.MethodName)) ∈ gw := gw_of 492 rfl rfl
set_option maxRecDepth 20000 in
theorem gm_494 : (Jvm.Cond.instanceMethod ({ cls := "TwinCores$Machine", name := "change", desc := "(II)V" } : Jvm.MethodName)) ∈ gw := gw_of 494 rfl rfl
set_option maxRecDepth 20000 in
theorem gm_495 : (Jvm.Cond.code ({ cls := "TwinCores$Machine", name := "change", desc := "(II)V" } : Jvm.MethodName) prog_3_method_24_code (5 : Nat) (Option.none : Option Jvm.ClassFile.FieldType)) ∈ gw := gw_of 495 rfl rfl
set_option maxRecDepth 20000 in
theorem gm_496 : (Jvm.Cond.methodLink "TwinCores$Machine" (188 : Nat) ({ cls := "TwinCores$Machine", name := "changed", desc := "(II)I" } : Jvm.MethodName)) ∈ gw := gw_of 496 rfl rfl
set_option maxRecDepth 20000 in
theorem gm_498 : (Jvm.Cond.instanceMethod ({ cls := "TwinCores$Machine", name := "changed", desc := "(II)I" } : Jvm.MethodName)) ∈ gw := gw_of 498 rfl rfl
set_option maxRecDepth 20000 in
theorem gm_499 : (Jvm.Cond.code ({ cls := "TwinCores$Machine", name := "changed", desc := "(II)I" } : Jvm.MethodName) prog_3_method_25_code (4 : Nat) (Option.some Jvm.ClassFile.FieldType.int)) ∈ gw := gw_of 499 rfl rfl
set_option maxRecDepth 20000 in
theorem gm_500 : (Jvm.Cond.methodLink "TwinCores$Machine" (140 : Nat) ({ cls := "TwinCores$Machine", name := "move", desc := "(I)V" } : Jvm.MethodName)) ∈ gw := gw_of 500 rfl rfl
set_option maxRecDepth 20000 in
theorem gm_502 : (Jvm.Cond.instanceMethod ({ cls := "TwinCores$Machine", name := "move", desc := "(I)V" } : Jvm.MethodName)) ∈ gw := gw_of 502 rfl rfl
set_option maxRecDepth 20000 in
theorem gm_503 : (Jvm.Cond.code ({ cls := "TwinCores$Machine", name := "move", desc := "(I)V" } : Jvm.MethodName) prog_3_method_26_code (2 : Nat) (Option.none : Option Jvm.ClassFile.FieldType)) ∈ gw := gw_of 503 rfl rfl
set_option maxRecDepth 20000 in
theorem gm_504 : (Jvm.Cond.methodLink "TwinCores$Machine" (143 : Nat) ({ cls := "TwinCores$Machine", name := "changeFlag", desc := "(I)V" } : Jvm.MethodName)) ∈ gw := gw_of 504 rfl rfl
set_option maxRecDepth 20000 in
theorem gm_506 : (Jvm.Cond.instanceMethod ({ cls := "TwinCores$Machine", name := "changeFlag", desc := "(I)V" } : Jvm.MethodName)) ∈ gw := gw_of 506 rfl rfl
set_option maxRecDepth 20000 in
theorem gm_507 : (Jvm.Cond.code ({ cls := "TwinCores$Machine", name := "changeFlag", desc := "(I)V" } : Jvm.MethodName) prog_3_method_27_code (2 : Nat) (Option.none : Option Jvm.ClassFile.FieldType)) ∈ gw := gw_of 507 rfl rfl
set_option maxRecDepth 20000 in
theorem gm_508 : (Jvm.Cond.methodLink "TwinCores$Machine" (146 : Nat) ({ cls := "TwinCores$Machine", name := "useStack", desc := "(I)V" } : Jvm.MethodName)) ∈ gw := gw_of 508 rfl rfl
set_option maxRecDepth 20000 in
theorem gm_510 : (Jvm.Cond.instanceMethod ({ cls := "TwinCores$Machine", name := "useStack", desc := "(I)V" } : Jvm.MethodName)) ∈ gw := gw_of 510 rfl rfl
set_option maxRecDepth 20000 in
theorem gm_511 : (Jvm.Cond.code ({ cls := "TwinCores$Machine", name := "useStack", desc := "(I)V" } : Jvm.MethodName) prog_3_method_28_code (2 : Nat) (Option.none : Option Jvm.ClassFile.FieldType)) ∈ gw := gw_of 511 rfl rfl
set_option maxRecDepth 20000 in
theorem gm_512 : (Jvm.Cond.methodLink "TwinCores$Machine" (192 : Nat) ({ cls := "TwinCores$Machine", name := "pull", desc := "()I" } : Jvm.MethodName)) ∈ gw := gw_of 512 rfl rfl
set_option maxRecDepth 20000 in
theorem gm_514 : (Jvm.Cond.instanceMethod ({ cls := "TwinCores$Machine", name := "pull", desc := "()I" } : Jvm.MethodName)) ∈ gw := gw_of 514 rfl rfl
set_option maxRecDepth 20000 in
theorem gm_515 : (Jvm.Cond.code ({ cls := "TwinCores$Machine", name := "pull", desc := "()I" } : Jvm.MethodName) prog_3_method_36_code (1 : Nat) (Option.some Jvm.ClassFile.FieldType.int)) ∈ gw := gw_of 515 rfl rfl
set_option maxRecDepth 20000 in
theorem gm_516 : (Jvm.Cond.methodLink "TwinCores$Machine" (195 : Nat) ({ cls := "TwinCores$Machine", name := "pullStatus", desc := "()V" } : Jvm.MethodName)) ∈ gw := gw_of 516 rfl rfl
set_option maxRecDepth 20000 in
theorem gm_518 : (Jvm.Cond.instanceMethod ({ cls := "TwinCores$Machine", name := "pullStatus", desc := "()V" } : Jvm.MethodName)) ∈ gw := gw_of 518 rfl rfl
set_option maxRecDepth 20000 in
theorem gm_519 : (Jvm.Cond.code ({ cls := "TwinCores$Machine", name := "pullStatus", desc := "()V" } : Jvm.MethodName) prog_3_method_38_code (1 : Nat) (Option.none : Option Jvm.ClassFile.FieldType)) ∈ gw := gw_of 519 rfl rfl
set_option maxRecDepth 20000 in
theorem gm_520 : (Jvm.Cond.methodLink "TwinCores$Machine" (149 : Nat) ({ cls := "TwinCores$Machine", name := "jump", desc := "(II)V" } : Jvm.MethodName)) ∈ gw := gw_of 520 rfl rfl
set_option maxRecDepth 20000 in
theorem gm_522 : (Jvm.Cond.instanceMethod ({ cls := "TwinCores$Machine", name := "jump", desc := "(II)V" } : Jvm.MethodName)) ∈ gw := gw_of 522 rfl rfl
set_option maxRecDepth 20000 in
theorem gm_523 : (Jvm.Cond.code ({ cls := "TwinCores$Machine", name := "jump", desc := "(II)V" } : Jvm.MethodName) prog_3_method_29_code (3 : Nat) (Option.none : Option Jvm.ClassFile.FieldType)) ∈ gw := gw_of 523 rfl rfl
set_option maxRecDepth 20000 in
theorem gm_524 : (Jvm.Cond.methodLink "TwinCores$Machine" (198 : Nat) ({ cls := "TwinCores$Machine", name := "pullWord", desc := "()I" } : Jvm.MethodName)) ∈ gw := gw_of 524 rfl rfl
set_option maxRecDepth 20000 in
theorem gm_526 : (Jvm.Cond.instanceMethod ({ cls := "TwinCores$Machine", name := "pullWord", desc := "()I" } : Jvm.MethodName)) ∈ gw := gw_of 526 rfl rfl
set_option maxRecDepth 20000 in
theorem gm_527 : (Jvm.Cond.code ({ cls := "TwinCores$Machine", name := "pullWord", desc := "()I" } : Jvm.MethodName) prog_3_method_37_code (2 : Nat) (Option.some Jvm.ClassFile.FieldType.int)) ∈ gw := gw_of 527 rfl rfl
set_option maxRecDepth 20000 in
theorem gm_528 : (Jvm.Cond.methodLink "TwinCores$Machine" (152 : Nat) ({ cls := "TwinCores$Machine", name := "branch", desc := "(II)V" } : Jvm.MethodName)) ∈ gw := gw_of 528 rfl rfl
set_option maxRecDepth 20000 in
theorem gm_530 : (Jvm.Cond.instanceMethod ({ cls := "TwinCores$Machine", name := "branch", desc := "(II)V" } : Jvm.MethodName)) ∈ gw := gw_of 530 rfl rfl
set_option maxRecDepth 20000 in
theorem gm_531 : (Jvm.Cond.code ({ cls := "TwinCores$Machine", name := "branch", desc := "(II)V" } : Jvm.MethodName) prog_3_method_30_code (3 : Nat) (Option.none : Option Jvm.ClassFile.FieldType)) ∈ gw := gw_of 531 rfl rfl
set_option maxRecDepth 20000 in
theorem gm_532 : (Jvm.Cond.methodLink "TwinCores$Machine" (201 : Nat) ({ cls := "TwinCores$Machine", name := "goes", desc := "(I)Z" } : Jvm.MethodName)) ∈ gw := gw_of 532 rfl rfl
set_option maxRecDepth 20000 in
theorem gm_534 : (Jvm.Cond.instanceMethod ({ cls := "TwinCores$Machine", name := "goes", desc := "(I)Z" } : Jvm.MethodName)) ∈ gw := gw_of 534 rfl rfl
set_option maxRecDepth 20000 in
theorem gm_535 : (Jvm.Cond.code ({ cls := "TwinCores$Machine", name := "goes", desc := "(I)Z" } : Jvm.MethodName) prog_3_method_31_code (2 : Nat) (Option.some Jvm.ClassFile.FieldType.boolean)) ∈ gw := gw_of 535 rfl rfl
set_option maxRecDepth 20000 in
theorem gm_536 : (Jvm.Cond.methodLink "TwinCoresLaw" (62 : Nat) ({ cls := "TwinCoresLaw", name := "register", desc := "(LTwinCores;II[J)I" } : Jvm.MethodName)) ∈ gw := gw_of 536 rfl rfl
set_option maxRecDepth 20000 in
theorem gm_537 : (Jvm.Cond.static ({ cls := "TwinCoresLaw", name := "register", desc := "(LTwinCores;II[J)I" } : Jvm.MethodName)) ∈ gw := gw_of 537 rfl rfl
set_option maxRecDepth 20000 in
theorem gm_538 : (Jvm.Cond.codeWith ({ cls := "TwinCoresLaw", name := "register", desc := "(LTwinCores;II[J)I" } : Jvm.MethodName) method_7_code (5 : Nat) (Option.some Jvm.ClassFile.FieldType.int) [((0 : Nat), (10 : Nat), (13 : Nat), (13 : Nat))]) ∈ gw := gw_of 538 rfl rfl
set_option maxRecDepth 20000 in
theorem gm_539 : (Jvm.Cond.methodLink "TwinCoresLaw" (28 : Nat) ({ cls := "TwinCores", name := "register", desc := "(II)I" } : Jvm.MethodName)) ∈ gw := gw_of 539 rfl rfl
set_option maxRecDepth 20000 in
theorem gm_540 : (Jvm.Cond.instanceMethod ({ cls := "TwinCores", name := "register", desc := "(II)I" } : Jvm.MethodName)) ∈ gw := gw_of 540 rfl rfl
set_option maxRecDepth 20000 in
theorem gm_541 : (Jvm.Cond.selects "TwinCores" ({ cls := "TwinCores", name := "register", desc := "(II)I" } : Jvm.MethodName) ({ cls := "TwinCores", name := "register", desc := "(II)I" } : Jvm.MethodName)) ∈ gw := gw_of 541 rfl rfl
set_option maxRecDepth 20000 in
theorem gm_542 : (Jvm.Cond.code ({ cls := "TwinCores", name := "register", desc := "(II)I" } : Jvm.MethodName) prog_1_method_6_code (3 : Nat) (Option.some Jvm.ClassFile.FieldType.int)) ∈ gw := gw_of 542 rfl rfl
set_option maxRecDepth 20000 in
theorem gm_543 : (Jvm.Cond.methodLink "TwinCores" (64 : Nat) ({ cls := "TwinCores$Machine", name := "valueOf", desc := "(I)I" } : Jvm.MethodName)) ∈ gw := gw_of 543 rfl rfl
set_option maxRecDepth 20000 in
theorem gm_544 : (Jvm.Cond.instanceMethod ({ cls := "TwinCores$Machine", name := "valueOf", desc := "(I)I" } : Jvm.MethodName)) ∈ gw := gw_of 544 rfl rfl
set_option maxRecDepth 20000 in
theorem gm_545 : (Jvm.Cond.selects "TwinCores$Machine" ({ cls := "TwinCores$Machine", name := "valueOf", desc := "(I)I" } : Jvm.MethodName) ({ cls := "TwinCores$Machine", name := "valueOf", desc := "(I)I" } : Jvm.MethodName)) ∈ gw := gw_of 545 rfl rfl
set_option maxRecDepth 20000 in
theorem gm_546 : (Jvm.Cond.code ({ cls := "TwinCores$Machine", name := "valueOf", desc := "(I)I" } : Jvm.MethodName) prog_3_method_6_code (2 : Nat) (Option.some Jvm.ClassFile.FieldType.int)) ∈ gw := gw_of 546 rfl rfl
set_option maxRecDepth 20000 in
theorem gm_547 : (Jvm.Cond.methodLink "TwinCores$Machine" (67 : Nat) ({ cls := "TwinCores$Machine", name := "countsAsStanding", desc := "()Z" } : Jvm.MethodName)) ∈ gw := gw_of 547 rfl rfl
set_option maxRecDepth 20000 in
theorem gm_548 : (Jvm.Cond.methodLink "TwinCoresLaw" (65 : Nat) ({ cls := "TwinCoresLaw", name := "port", desc := "(LTwinCores;II[J)I" } : Jvm.MethodName)) ∈ gw := gw_of 548 rfl rfl
set_option maxRecDepth 20000 in
theorem gm_549 : (Jvm.Cond.static ({ cls := "TwinCoresLaw", name := "port", desc := "(LTwinCores;II[J)I" } : Jvm.MethodName)) ∈ gw := gw_of 549 rfl rfl
set_option maxRecDepth 20000 in
theorem gm_550 : (Jvm.Cond.codeWith ({ cls := "TwinCoresLaw", name := "port", desc := "(LTwinCores;II[J)I" } : Jvm.MethodName) method_8_code (5 : Nat) (Option.some Jvm.ClassFile.FieldType.int) [((0 : Nat), (10 : Nat), (13 : Nat), (13 : Nat))]) ∈ gw := gw_of 550 rfl rfl
set_option maxRecDepth 20000 in
theorem gm_551 : (Jvm.Cond.methodLink "TwinCoresLaw" (31 : Nat) ({ cls := "TwinCores", name := "port", desc := "(II)I" } : Jvm.MethodName)) ∈ gw := gw_of 551 rfl rfl
set_option maxRecDepth 20000 in
theorem gm_552 : (Jvm.Cond.instanceMethod ({ cls := "TwinCores", name := "port", desc := "(II)I" } : Jvm.MethodName)) ∈ gw := gw_of 552 rfl rfl
set_option maxRecDepth 20000 in
theorem gm_553 : (Jvm.Cond.selects "TwinCores" ({ cls := "TwinCores", name := "port", desc := "(II)I" } : Jvm.MethodName) ({ cls := "TwinCores", name := "port", desc := "(II)I" } : Jvm.MethodName)) ∈ gw := gw_of 553 rfl rfl
set_option maxRecDepth 20000 in
theorem gm_554 : (Jvm.Cond.code ({ cls := "TwinCores", name := "port", desc := "(II)I" } : Jvm.MethodName) prog_1_method_7_code (3 : Nat) (Option.some Jvm.ClassFile.FieldType.int)) ∈ gw := gw_of 554 rfl rfl
set_option maxRecDepth 20000 in
theorem gm_555 : (Jvm.Cond.methodLink "TwinCores" (67 : Nat) ({ cls := "TwinCores$Unit", name := "look", desc := "(II)I" } : Jvm.MethodName)) ∈ gw := gw_of 555 rfl rfl
set_option maxRecDepth 20000 in
theorem gm_556 : (Jvm.Cond.instanceMethod ({ cls := "TwinCores$Unit", name := "look", desc := "(II)I" } : Jvm.MethodName)) ∈ gw := gw_of 556 rfl rfl
set_option maxRecDepth 20000 in
theorem gm_557 : (Jvm.Cond.selects "TwinCores$Unit" ({ cls := "TwinCores$Unit", name := "look", desc := "(II)I" } : Jvm.MethodName) ({ cls := "TwinCores$Unit", name := "look", desc := "(II)I" } : Jvm.MethodName)) ∈ gw := gw_of 557 rfl rfl
set_option maxRecDepth 20000 in
theorem gm_558 : (Jvm.Cond.code ({ cls := "TwinCores$Unit", name := "look", desc := "(II)I" } : Jvm.MethodName) prog_5_method_3_code (3 : Nat) (Option.some Jvm.ClassFile.FieldType.int)) ∈ gw := gw_of 558 rfl rfl
set_option maxRecDepth 20000 in
theorem gm_559 : (Jvm.Cond.methodLink "TwinCores$Unit" (35 : Nat) ({ cls := "TwinCores$Unit", name := "status", desc := "(II)I" } : Jvm.MethodName)) ∈ gw := gw_of 559 rfl rfl
set_option maxRecDepth 20000 in
theorem gm_560 : (Jvm.Cond.methodLink "TwinCores$Unit" (43 : Nat) ({ cls := "TwinCores$Row", name := "next", desc := "()I" } : Jvm.MethodName)) ∈ gw := gw_of 560 rfl rfl
set_option maxRecDepth 20000 in
theorem gm_561 : (Jvm.Cond.instanceMethod ({ cls := "TwinCores$Row", name := "next", desc := "()I" } : Jvm.MethodName)) ∈ gw := gw_of 561 rfl rfl
set_option maxRecDepth 20000 in
theorem gm_562 : (Jvm.Cond.selects "TwinCores$Row" ({ cls := "TwinCores$Row", name := "next", desc := "()I" } : Jvm.MethodName) ({ cls := "TwinCores$Row", name := "next", desc := "()I" } : Jvm.MethodName)) ∈ gw := gw_of 562 rfl rfl
set_option maxRecDepth 20000 in
theorem gm_563 : (Jvm.Cond.code ({ cls := "TwinCores$Row", name := "next", desc := "()I" } : Jvm.MethodName) prog_4_method_3_code (1 : Nat) (Option.some Jvm.ClassFile.FieldType.int)) ∈ gw := gw_of 563 rfl rfl
set_option maxRecDepth 20000 in
theorem gm_564 : (Jvm.Cond.methodLink "TwinCoresLaw" (68 : Nat) ({ cls := "TwinCoresLaw", name := "waits", desc := "(LTwinCores;II[J)I" } : Jvm.MethodName)) ∈ gw := gw_of 564 rfl rfl
set_option maxRecDepth 20000 in
theorem gm_565 : (Jvm.Cond.static ({ cls := "TwinCoresLaw", name := "waits", desc := "(LTwinCores;II[J)I" } : Jvm.MethodName)) ∈ gw := gw_of 565 rfl rfl
set_option maxRecDepth 20000 in
theorem gm_566 : (Jvm.Cond.codeWith ({ cls := "TwinCoresLaw", name := "waits", desc := "(LTwinCores;II[J)I" } : Jvm.MethodName) method_9_code (5 : Nat) (Option.some Jvm.ClassFile.FieldType.int) [((0 : Nat), (10 : Nat), (13 : Nat), (13 : Nat))]) ∈ gw := gw_of 566 rfl rfl
set_option maxRecDepth 20000 in
theorem gm_567 : (Jvm.Cond.methodLink "TwinCoresLaw" (34 : Nat) ({ cls := "TwinCores", name := "waits", desc := "(II)I" } : Jvm.MethodName)) ∈ gw := gw_of 567 rfl rfl
set_option maxRecDepth 20000 in
theorem gm_568 : (Jvm.Cond.instanceMethod ({ cls := "TwinCores", name := "waits", desc := "(II)I" } : Jvm.MethodName)) ∈ gw := gw_of 568 rfl rfl
set_option maxRecDepth 20000 in
theorem gm_569 : (Jvm.Cond.selects "TwinCores" ({ cls := "TwinCores", name := "waits", desc := "(II)I" } : Jvm.MethodName) ({ cls := "TwinCores", name := "waits", desc := "(II)I" } : Jvm.MethodName)) ∈ gw := gw_of 569 rfl rfl
set_option maxRecDepth 20000 in
theorem gm_570 : (Jvm.Cond.code ({ cls := "TwinCores", name := "waits", desc := "(II)I" } : Jvm.MethodName) prog_1_method_8_code (3 : Nat) (Option.some Jvm.ClassFile.FieldType.int)) ∈ gw := gw_of 570 rfl rfl
set_option maxRecDepth 20000 in
theorem gm_571 : (Jvm.Cond.methodLink "TwinCores" (71 : Nat) ({ cls := "TwinCores$Unit", name := "waiting", desc := "(II)I" } : Jvm.MethodName)) ∈ gw := gw_of 571 rfl rfl
set_option maxRecDepth 20000 in
theorem gm_572 : (Jvm.Cond.methodLink "TwinCoresLaw" (71 : Nat) ({ cls := "TwinCoresLaw", name := "steps", desc := "(LTwinCores;I[J)I" } : Jvm.MethodName)) ∈ gw := gw_of 572 rfl rfl
set_option maxRecDepth 20000 in
theorem gm_573 : (Jvm.Cond.static ({ cls := "TwinCoresLaw", name := "steps", desc := "(LTwinCores;I[J)I" } : Jvm.MethodName)) ∈ gw := gw_of 573 rfl rfl
set_option maxRecDepth 20000 in
theorem gm_574 : (Jvm.Cond.codeWith ({ cls := "TwinCoresLaw", name := "steps", desc := "(LTwinCores;I[J)I" } : Jvm.MethodName) method_10_code (4 : Nat) (Option.some Jvm.ClassFile.FieldType.int) [((0 : Nat), (8 : Nat), (11 : Nat), (13 : Nat))]) ∈ gw := gw_of 574 rfl rfl
set_option maxRecDepth 20000 in
theorem gm_575 : (Jvm.Cond.methodLink "TwinCoresLaw" (37 : Nat) ({ cls := "TwinCores", name := "steps", desc := "(I)J" } : Jvm.MethodName)) ∈ gw := gw_of 575 rfl rfl
set_option maxRecDepth 20000 in
theorem gm_576 : (Jvm.Cond.instanceMethod ({ cls := "TwinCores", name := "steps", desc := "(I)J" } : Jvm.MethodName)) ∈ gw := gw_of 576 rfl rfl
set_option maxRecDepth 20000 in
theorem gm_577 : (Jvm.Cond.selects "TwinCores" ({ cls := "TwinCores", name := "steps", desc := "(I)J" } : Jvm.MethodName) ({ cls := "TwinCores", name := "steps", desc := "(I)J" } : Jvm.MethodName)) ∈ gw := gw_of 577 rfl rfl
set_option maxRecDepth 20000 in
theorem gm_578 : (Jvm.Cond.code ({ cls := "TwinCores", name := "steps", desc := "(I)J" } : Jvm.MethodName) prog_1_method_9_code (2 : Nat) (Option.some Jvm.ClassFile.FieldType.long)) ∈ gw := gw_of 578 rfl rfl
set_option maxRecDepth 20000 in
theorem gm_579 : (Jvm.Cond.methodLink "TwinCores" (74 : Nat) ({ cls := "TwinCores$Machine", name := "stepsDone", desc := "()J" } : Jvm.MethodName)) ∈ gw := gw_of 579 rfl rfl
set_option maxRecDepth 20000 in
theorem gm_580 : (Jvm.Cond.instanceMethod ({ cls := "TwinCores$Machine", name := "stepsDone", desc := "()J" } : Jvm.MethodName)) ∈ gw := gw_of 580 rfl rfl
set_option maxRecDepth 20000 in
theorem gm_581 : (Jvm.Cond.selects "TwinCores$Machine" ({ cls := "TwinCores$Machine", name := "stepsDone", desc := "()J" } : Jvm.MethodName) ({ cls := "TwinCores$Machine", name := "stepsDone", desc := "()J" } : Jvm.MethodName)) ∈ gw := gw_of 581 rfl rfl
set_option maxRecDepth 20000 in
theorem gm_582 : (Jvm.Cond.code ({ cls := "TwinCores$Machine", name := "stepsDone", desc := "()J" } : Jvm.MethodName) prog_3_method_7_code (1 : Nat) (Option.some Jvm.ClassFile.FieldType.long)) ∈ gw := gw_of 582 rfl rfl
set_option maxRecDepth 20000 in
theorem gm_583 : (Jvm.Cond.classLink "TwinCoresLaw" (42 : Nat) "TwinCoresModel") ∈ gw := gw_of 583 rfl rfl
set_option maxRecDepth 20000 in
theorem gm_584 : (Jvm.Cond.instantiable "TwinCoresModel" (17 : Nat)) ∈ gw := gw_of 584 rfl rfl
set_option maxRecDepth 20000 in
theorem gm_585 : (Jvm.Cond.methodLink "TwinCoresLaw" (44 : Nat) ({ cls := "TwinCoresModel", name := "<init>", desc := "()V" } : Jvm.MethodName)) ∈ gw := gw_of 585 rfl rfl
set_option maxRecDepth 20000 in
theorem gm_586 : (Jvm.Cond.instanceMethod ({ cls := "TwinCoresModel", name := "<init>", desc := "()V" } : Jvm.MethodName)) ∈ gw := gw_of 586 rfl rfl
set_option maxRecDepth 20000 in
theorem gm_587 : (Jvm.Cond.code ({ cls := "TwinCoresModel", name := "<init>", desc := "()V" } : Jvm.MethodName) prog_7_method_1_code (1 : Nat) (Option.none : Option Jvm.ClassFile.FieldType)) ∈ gw := gw_of 587 rfl rfl
set_option maxRecDepth 20000 in
theorem gm_588 : (Jvm.Cond.methodLink "TwinCoresModel" (1 : Nat) ({ cls := "java/lang/Object", name := "<init>", desc := "()V" } : Jvm.MethodName)) ∈ gw := gw_of 588 rfl rfl
set_option maxRecDepth 20000 in
theorem gm_589 : (Jvm.Cond.methodLink "TwinCoresModel" (48 : Nat) ({ cls := "TwinCoresModel", name := "clear", desc := "()V" } : Jvm.MethodName)) ∈ gw := gw_of 589 rfl rfl
set_option maxRecDepth 20000 in
theorem gm_590 : (Jvm.Cond.instanceMethod ({ cls := "TwinCoresModel", name := "clear", desc := "()V" } : Jvm.MethodName)) ∈ gw := gw_of 590 rfl rfl
set_option maxRecDepth 20000 in
theorem gm_591 : (Jvm.Cond.selects "TwinCoresModel" ({ cls := "TwinCoresModel", name := "clear", desc := "()V" } : Jvm.MethodName) ({ cls := "TwinCoresModel", name := "clear", desc := "()V" } : Jvm.MethodName)) ∈ gw := gw_of 591 rfl rfl
set_option maxRecDepth 20000 in
theorem gm_592 : (Jvm.Cond.code ({ cls := "TwinCoresModel", name := "clear", desc := "()V" } : Jvm.MethodName) prog_7_method_3_code (2 : Nat) (Option.none : Option Jvm.ClassFile.FieldType)) ∈ gw := gw_of 592 rfl rfl
set_option maxRecDepth 20000 in
theorem gm_593 : (Jvm.Cond.fieldLink "TwinCoresModel" (51 : Nat) "TwinCoresModel" "thrown" "I") ∈ gw := gw_of 593 rfl rfl
set_option maxRecDepth 20000 in
theorem gm_594 : (Jvm.Cond.fieldLink "TwinCoresModel" (7 : Nat) "TwinCoresModel" "bytes" "[I") ∈ gw := gw_of 594 rfl rfl
set_option maxRecDepth 20000 in
theorem gm_595 : (Jvm.Cond.fieldLink "TwinCoresModel" (13 : Nat) "TwinCoresModel" "a" "[I") ∈ gw := gw_of 595 rfl rfl
set_option maxRecDepth 20000 in
theorem gm_596 : (Jvm.Cond.fieldLink "TwinCoresModel" (16 : Nat) "TwinCoresModel" "x" "[I") ∈ gw := gw_of 596 rfl rfl
set_option maxRecDepth 20000 in
theorem gm_597 : (Jvm.Cond.fieldLink "TwinCoresModel" (19 : Nat) "TwinCoresModel" "y" "[I") ∈ gw := gw_of 597 rfl rfl
set_option maxRecDepth 20000 in
theorem gm_598 : (Jvm.Cond.fieldLink "TwinCoresModel" (22 : Nat) "TwinCoresModel" "s" "[I") ∈ gw := gw_of 598 rfl rfl
set_option maxRecDepth 20000 in
theorem gm_599 : (Jvm.Cond.fieldLink "TwinCoresModel" (25 : Nat) "TwinCoresModel" "p" "[I") ∈ gw := gw_of 599 rfl rfl
set_option maxRecDepth 20000 in
theorem gm_600 : (Jvm.Cond.fieldLink "TwinCoresModel" (28 : Nat) "TwinCoresModel" "pc" "[I") ∈ gw := gw_of 600 rfl rfl
set_option maxRecDepth 20000 in
theorem gm_601 : (Jvm.Cond.fieldLink "TwinCoresModel" (31 : Nat) "TwinCoresModel" "stands" "[Z") ∈ gw := gw_of 601 rfl rfl
set_option maxRecDepth 20000 in
theorem gm_602 : (Jvm.Cond.fieldLink "TwinCoresModel" (35 : Nat) "TwinCoresModel" "steps" "[J") ∈ gw := gw_of 602 rfl rfl
set_option maxRecDepth 20000 in
theorem gm_603 : (Jvm.Cond.fieldLink "TwinCoresModel" (39 : Nat) "TwinCoresModel" "rows" "[I") ∈ gw := gw_of 603 rfl rfl
set_option maxRecDepth 20000 in
theorem gm_604 : (Jvm.Cond.fieldLink "TwinCoresModel" (42 : Nat) "TwinCoresModel" "many" "[I") ∈ gw := gw_of 604 rfl rfl
set_option maxRecDepth 20000 in
theorem gm_605 : (Jvm.Cond.fieldLink "TwinCoresModel" (45 : Nat) "TwinCoresModel" "latest" "[I") ∈ gw := gw_of 605 rfl rfl
set_option maxRecDepth 20000 in
theorem gm_606 : (Jvm.Cond.fieldLink "TwinCoresModel" (55 : Nat) "TwinCoresModel" "unit" "I") ∈ gw := gw_of 606 rfl rfl
set_option maxRecDepth 20000 in
theorem gm_607 : (Jvm.Cond.fieldLink "TwinCoresModel" (58 : Nat) "TwinCoresModel" "owed" "Z") ∈ gw := gw_of 607 rfl rfl
set_option maxRecDepth 20000 in
theorem gm_608 : (Jvm.Cond.fieldLink "TwinCoresModel" (62 : Nat) "TwinCoresModel" "lineBefore" "Z") ∈ gw := gw_of 608 rfl rfl
set_option maxRecDepth 20000 in
theorem gm_609 : (Jvm.Cond.fieldLink "TwinCoresModel" (80 : Nat) "TwinCoresModel" "m" "I") ∈ gw := gw_of 609 rfl rfl
set_option maxRecDepth 20000 in
theorem gm_610 : (Jvm.Cond.lays "TwinCoresModel" "TwinCoresModel" "thrown" "I") ∈ gw := gw_of 610 rfl rfl
set_option maxRecDepth 20000 in
theorem gm_611 : (Jvm.Cond.soleField "TwinCoresModel" "thrown") ∈ gw := gw_of 611 rfl rfl
set_option maxRecDepth 20000 in
theorem gm_612 : (Jvm.Cond.laysFinal "TwinCoresModel" "TwinCoresModel" "bytes" "[I") ∈ gw := gw_of 612 rfl rfl
set_option maxRecDepth 20000 in
theorem gm_613 : (Jvm.Cond.soleField "TwinCoresModel" "bytes") ∈ gw := gw_of 613 rfl rfl
set_option maxRecDepth 20000 in
theorem gm_614 : (Jvm.Cond.laysFinal "TwinCoresModel" "TwinCoresModel" "a" "[I") ∈ gw := gw_of 614 rfl rfl
set_option maxRecDepth 20000 in
theorem gm_615 : (Jvm.Cond.soleField "TwinCoresModel" "a") ∈ gw := gw_of 615 rfl rfl
set_option maxRecDepth 20000 in
theorem gm_616 : (Jvm.Cond.laysFinal "TwinCoresModel" "TwinCoresModel" "x" "[I") ∈ gw := gw_of 616 rfl rfl
set_option maxRecDepth 20000 in
theorem gm_617 : (Jvm.Cond.soleField "TwinCoresModel" "x") ∈ gw := gw_of 617 rfl rfl
set_option maxRecDepth 20000 in
theorem gm_618 : (Jvm.Cond.laysFinal "TwinCoresModel" "TwinCoresModel" "y" "[I") ∈ gw := gw_of 618 rfl rfl
set_option maxRecDepth 20000 in
theorem gm_619 : (Jvm.Cond.soleField "TwinCoresModel" "y") ∈ gw := gw_of 619 rfl rfl
set_option maxRecDepth 20000 in
theorem gm_620 : (Jvm.Cond.laysFinal "TwinCoresModel" "TwinCoresModel" "s" "[I") ∈ gw := gw_of 620 rfl rfl
set_option maxRecDepth 20000 in
theorem gm_621 : (Jvm.Cond.soleField "TwinCoresModel" "s") ∈ gw := gw_of 621 rfl rfl
set_option maxRecDepth 20000 in
theorem gm_622 : (Jvm.Cond.laysFinal "TwinCoresModel" "TwinCoresModel" "p" "[I") ∈ gw := gw_of 622 rfl rfl
set_option maxRecDepth 20000 in
theorem gm_623 : (Jvm.Cond.soleField "TwinCoresModel" "p") ∈ gw := gw_of 623 rfl rfl
set_option maxRecDepth 20000 in
theorem gm_624 : (Jvm.Cond.laysFinal "TwinCoresModel" "TwinCoresModel" "pc" "[I") ∈ gw := gw_of 624 rfl rfl
set_option maxRecDepth 20000 in
theorem gm_625 : (Jvm.Cond.soleField "TwinCoresModel" "pc") ∈ gw := gw_of 625 rfl rfl
set_option maxRecDepth 20000 in
theorem gm_626 : (Jvm.Cond.laysFinal "TwinCoresModel" "TwinCoresModel" "stands" "[Z") ∈ gw := gw_of 626 rfl rfl
set_option maxRecDepth 20000 in
theorem gm_627 : (Jvm.Cond.soleField "TwinCoresModel" "stands") ∈ gw := gw_of 627 rfl rfl
set_option maxRecDepth 20000 in
theorem gm_628 : (Jvm.Cond.laysFinal "TwinCoresModel" "TwinCoresModel" "steps" "[J") ∈ gw := gw_of 628 rfl rfl
set_option maxRecDepth 20000 in
theorem gm_629 : (Jvm.Cond.soleField "TwinCoresModel" "steps") ∈ gw := gw_of 629 rfl rfl
set_option maxRecDepth 20000 in
theorem gm_630 : (Jvm.Cond.laysFinal "TwinCoresModel" "TwinCoresModel" "rows" "[I") ∈ gw := gw_of 630 rfl rfl
set_option maxRecDepth 20000 in
theorem gm_631 : (Jvm.Cond.soleField "TwinCoresModel" "rows") ∈ gw := gw_of 631 rfl rfl
set_option maxRecDepth 20000 in
theorem gm_632 : (Jvm.Cond.laysFinal "TwinCoresModel" "TwinCoresModel" "many" "[I") ∈ gw := gw_of 632 rfl rfl
set_option maxRecDepth 20000 in
theorem gm_633 : (Jvm.Cond.soleField "TwinCoresModel" "many") ∈ gw := gw_of 633 rfl rfl
set_option maxRecDepth 20000 in
theorem gm_634 : (Jvm.Cond.laysFinal "TwinCoresModel" "TwinCoresModel" "latest" "[I") ∈ gw := gw_of 634 rfl rfl
set_option maxRecDepth 20000 in
theorem gm_635 : (Jvm.Cond.soleField "TwinCoresModel" "latest") ∈ gw := gw_of 635 rfl rfl
set_option maxRecDepth 20000 in
theorem gm_636 : (Jvm.Cond.lays "TwinCoresModel" "TwinCoresModel" "unit" "I") ∈ gw := gw_of 636 rfl rfl
set_option maxRecDepth 20000 in
theorem gm_637 : (Jvm.Cond.soleField "TwinCoresModel" "unit") ∈ gw := gw_of 637 rfl rfl
set_option maxRecDepth 20000 in
theorem gm_638 : (Jvm.Cond.lays "TwinCoresModel" "TwinCoresModel" "owed" "Z") ∈ gw := gw_of 638 rfl rfl
set_option maxRecDepth 20000 in
theorem gm_639 : (Jvm.Cond.soleField "TwinCoresModel" "owed") ∈ gw := gw_of 639 rfl rfl
set_option maxRecDepth 20000 in
theorem gm_640 : (Jvm.Cond.lays "TwinCoresModel" "TwinCoresModel" "lineBefore" "Z") ∈ gw := gw_of 640 rfl rfl
set_option maxRecDepth 20000 in
theorem gm_641 : (Jvm.Cond.soleField "TwinCoresModel" "lineBefore") ∈ gw := gw_of 641 rfl rfl
set_option maxRecDepth 20000 in
theorem gm_642 : (Jvm.Cond.lays "TwinCoresModel" "TwinCoresModel" "m" "I") ∈ gw := gw_of 642 rfl rfl
set_option maxRecDepth 20000 in
theorem gm_643 : (Jvm.Cond.soleField "TwinCoresModel" "m") ∈ gw := gw_of 643 rfl rfl
set_option maxRecDepth 20000 in
theorem gm_644 : (Jvm.Cond.superclass "TwinCoresModel" "java/lang/Object") ∈ gw := gw_of 644 rfl rfl
set_option maxRecDepth 20000 in
theorem gm_645 : (Jvm.Cond.arrayClass Jvm.ClassFile.FieldType.boolean) ∈ gw := gw_of 645 rfl rfl
set_option maxRecDepth 20000 in
theorem gm_646 : (Jvm.Cond.arrayClass Jvm.ClassFile.FieldType.long) ∈ gw := gw_of 646 rfl rfl
set_option maxRecDepth 20000 in
theorem gm_647 : (Jvm.Cond.methodLink "TwinCoresLaw" (75 : Nat) ({ cls := "TwinCoresModel", name := "thrown", desc := "()I" } : Jvm.MethodName)) ∈ gw := gw_of 647 rfl rfl
set_option maxRecDepth 20000 in
theorem gm_648 : (Jvm.Cond.instanceMethod ({ cls := "TwinCoresModel", name := "thrown", desc := "()I" } : Jvm.MethodName)) ∈ gw := gw_of 648 rfl rfl
set_option maxRecDepth 20000 in
theorem gm_649 : (Jvm.Cond.selects "TwinCoresModel" ({ cls := "TwinCoresModel", name := "thrown", desc := "()I" } : Jvm.MethodName) ({ cls := "TwinCoresModel", name := "thrown", desc := "()I" } : Jvm.MethodName)) ∈ gw := gw_of 649 rfl rfl
set_option maxRecDepth 20000 in
theorem gm_650 : (Jvm.Cond.code ({ cls := "TwinCoresModel", name := "thrown", desc := "()I" } : Jvm.MethodName) prog_7_method_2_code (1 : Nat) (Option.some Jvm.ClassFile.FieldType.int)) ∈ gw := gw_of 650 rfl rfl
set_option maxRecDepth 20000 in
theorem gm_651 : (Jvm.Cond.methodLink "TwinCoresLaw" (82 : Nat) ({ cls := "TwinCoresModel", name := "clear", desc := "()V" } : Jvm.MethodName)) ∈ gw := gw_of 651 rfl rfl
set_option maxRecDepth 20000 in
theorem gm_652 : (Jvm.Cond.methodLink "TwinCoresLaw" (50 : Nat) ({ cls := "TwinCoresModel", name := "load", desc := "(IIIIIIII)V" } : Jvm.MethodName)) ∈ gw := gw_of 652 rfl rfl
set_option maxRecDepth 20000 in
theorem gm_653 : (Jvm.Cond.instanceMethod ({ cls := "TwinCoresModel", name := "load", desc := "(IIIIIIII)V" } : Jvm.MethodName)) ∈ gw := gw_of 653 rfl rfl
set_option maxRecDepth 20000 in
theorem gm_654 : (Jvm.Cond.selects "TwinCoresModel" ({ cls := "TwinCoresModel", name := "load", desc := "(IIIIIIII)V" } : Jvm.MethodName) ({ cls := "TwinCoresModel", name := "load", desc := "(IIIIIIII)V" } : Jvm.MethodName)) ∈ gw := gw_of 654 rfl rfl
set_option maxRecDepth 20000 in
theorem gm_655 : (Jvm.Cond.code ({ cls := "TwinCoresModel", name := "load", desc := "(IIIIIIII)V" } : Jvm.MethodName) prog_7_method_6_code (11 : Nat) (Option.none : Option Jvm.ClassFile.FieldType)) ∈ gw := gw_of 655 rfl rfl
set_option maxRecDepth 20000 in
theorem gm_656 : (Jvm.Cond.methodLink "TwinCoresModel" (66 : Nat) ({ cls := "TwinCoresModel", name := "isMachine", desc := "(I)Z" } : Jvm.MethodName)) ∈ gw := gw_of 656 rfl rfl
set_option maxRecDepth 20000 in
theorem gm_657 : (Jvm.Cond.static ({ cls := "TwinCoresModel", name := "isMachine", desc := "(I)Z" } : Jvm.MethodName)) ∈ gw := gw_of 657 rfl rfl
set_option maxRecDepth 20000 in
theorem gm_658 : (Jvm.Cond.code ({ cls := "TwinCoresModel", name := "isMachine", desc := "(I)Z" } : Jvm.MethodName) prog_7_method_5_code (1 : Nat) (Option.some Jvm.ClassFile.FieldType.boolean)) ∈ gw := gw_of 658 rfl rfl
set_option maxRecDepth 20000 in
theorem gm_659 : (Jvm.Cond.methodLink "TwinCoresModel" (70 : Nat) ({ cls := "TwinCoresModel", name := "isPlace", desc := "(I)Z" } : Jvm.MethodName)) ∈ gw := gw_of 659 rfl rfl
set_option maxRecDepth 20000 in
theorem gm_660 : (Jvm.Cond.static ({ cls := "TwinCoresModel", name := "isPlace", desc := "(I)Z" } : Jvm.MethodName)) ∈ gw := gw_of 660 rfl rfl
set_option maxRecDepth 20000 in
theorem gm_661 : (Jvm.Cond.code ({ cls := "TwinCoresModel", name := "isPlace", desc := "(I)Z" } : Jvm.MethodName) prog_7_method_4_code (1 : Nat) (Option.some Jvm.ClassFile.FieldType.boolean)) ∈ gw := gw_of 661 rfl rfl
set_option maxRecDepth 20000 in
theorem gm_662 : (Jvm.Cond.constant "TwinCoresModel" (65 : Nat) (65536 : Int32)) ∈ gw := gw_of 662 rfl rfl
set_option maxRecDepth 20000 in
theorem gm_663 : (Jvm.Cond.methodLink "TwinCoresLaw" (54 : Nat) ({ cls := "TwinCoresModel", name := "byteAt", desc := "(II)I" } : Jvm.MethodName)) ∈ gw := gw_of 663 rfl rfl
set_option maxRecDepth 20000 in
theorem gm_664 : (Jvm.Cond.instanceMethod ({ cls := "TwinCoresModel", name := "byteAt", desc := "(II)I" } : Jvm.MethodName)) ∈ gw := gw_of 664 rfl rfl
set_option maxRecDepth 20000 in
theorem gm_665 : (Jvm.Cond.selects "TwinCoresModel" ({ cls := "TwinCoresModel", name := "byteAt", desc := "(II)I" } : Jvm.MethodName) ({ cls := "TwinCoresModel", name := "byteAt", desc := "(II)I" } : Jvm.MethodName)) ∈ gw := gw_of 665 rfl rfl
set_option maxRecDepth 20000 in
theorem gm_666 : (Jvm.Cond.code ({ cls := "TwinCoresModel", name := "byteAt", desc := "(II)I" } : Jvm.MethodName) prog_7_method_7_code (3 : Nat) (Option.some Jvm.ClassFile.FieldType.int)) ∈ gw := gw_of 666 rfl rfl
set_option maxRecDepth 20000 in
theorem gm_667 : (Jvm.Cond.methodLink "TwinCoresLaw" (61 : Nat) ({ cls := "TwinCoresModel", name := "run", desc := "(II)I" } : Jvm.MethodName)) ∈ gw := gw_of 667 rfl rfl
set_option maxRecDepth 20000 in
theorem gm_668 : (Jvm.Cond.instanceMethod ({ cls := "TwinCoresModel", name := "run", desc := "(II)I" } : Jvm.MethodName)) ∈ gw := gw_of 668 rfl rfl
set_option maxRecDepth 20000 in
theorem gm_669 : (Jvm.Cond.selects "TwinCoresModel" ({ cls := "TwinCoresModel", name := "run", desc := "(II)I" } : Jvm.MethodName) ({ cls := "TwinCoresModel", name := "run", desc := "(II)I" } : Jvm.MethodName)) ∈ gw := gw_of 669 rfl rfl
set_option maxRecDepth 20000 in
theorem gm_670 : (Jvm.Cond.code ({ cls := "TwinCoresModel", name := "run", desc := "(II)I" } : Jvm.MethodName) prog_7_method_43_code (5 : Nat) (Option.some Jvm.ClassFile.FieldType.int)) ∈ gw := gw_of 670 rfl rfl
set_option maxRecDepth 20000 in
theorem gm_671 : (Jvm.Cond.methodLink "TwinCoresModel" (190 : Nat) ({ cls := "TwinCoresModel", name := "step", desc := "(I)V" } : Jvm.MethodName)) ∈ gw := gw_of 671 rfl rfl
set_option maxRecDepth 20000 in
theorem gm_673 : (Jvm.Cond.instanceMethod ({ cls := "TwinCoresModel", name := "step", desc := "(I)V" } : Jvm.MethodName)) ∈ gw := gw_of 673 rfl rfl
set_option maxRecDepth 20000 in
theorem gm_674 : (Jvm.Cond.code ({ cls := "TwinCoresModel", name := "step", desc := "(I)V" } : Jvm.MethodName) prog_7_method_42_code (6 : Nat) (Option.none : Option Jvm.ClassFile.FieldType)) ∈ gw := gw_of 674 rfl rfl
set_option maxRecDepth 20000 in
theorem gm_675 : (Jvm.Cond.methodLink "TwinCoresModel" (169 : Nat) ({ cls := "TwinCoresModel", name := "doReset", desc := "(I)V" } : Jvm.MethodName)) ∈ gw := gw_of 675 rfl rfl
set_option maxRecDepth 20000 in
theorem gm_677 : (Jvm.Cond.instanceMethod ({ cls := "TwinCoresModel", name := "doReset", desc := "(I)V" } : Jvm.MethodName)) ∈ gw := gw_of 677 rfl rfl
set_option maxRecDepth 20000 in
theorem gm_678 : (Jvm.Cond.code ({ cls := "TwinCoresModel", name := "doReset", desc := "(I)V" } : Jvm.MethodName) prog_7_method_41_code (2 : Nat) (Option.none : Option Jvm.ClassFile.FieldType)) ∈ gw := gw_of 678 rfl rfl
set_option maxRecDepth 20000 in
theorem gm_679 : (Jvm.Cond.methodLink "TwinCoresModel" (114 : Nat) ({ cls := "TwinCoresModel", name := "set", desc := "(IZ)V" } : Jvm.MethodName)) ∈ gw := gw_of 679 rfl rfl
set_option maxRecDepth 20000 in
theorem gm_681 : (Jvm.Cond.instanceMethod ({ cls := "TwinCoresModel", name := "set", desc := "(IZ)V" } : Jvm.MethodName)) ∈ gw := gw_of 681 rfl rfl
set_option maxRecDepth 20000 in
theorem gm_682 : (Jvm.Cond.code ({ cls := "TwinCoresModel", name := "set", desc := "(IZ)V" } : Jvm.MethodName) prog_7_method_26_code (3 : Nat) (Option.none : Option Jvm.ClassFile.FieldType)) ∈ gw := gw_of 682 rfl rfl
set_option maxRecDepth 20000 in
theorem gm_683 : (Jvm.Cond.methodLink "TwinCoresModel" (158 : Nat) ({ cls := "TwinCoresModel", name := "plainWord", desc := "(I)I" } : Jvm.MethodName)) ∈ gw := gw_of 683 rfl rfl
set_option maxRecDepth 20000 in
theorem gm_685 : (Jvm.Cond.instanceMethod ({ cls := "TwinCoresModel", name := "plainWord", desc := "(I)I" } : Jvm.MethodName)) ∈ gw := gw_of 685 rfl rfl
set_option maxRecDepth 20000 in
theorem gm_686 : (Jvm.Cond.code ({ cls := "TwinCoresModel", name := "plainWord", desc := "(I)I" } : Jvm.MethodName) prog_7_method_18_code (2 : Nat) (Option.some Jvm.ClassFile.FieldType.int)) ∈ gw := gw_of 686 rfl rfl
set_option maxRecDepth 20000 in
theorem gm_687 : (Jvm.Cond.methodLink "TwinCoresModel" (96 : Nat) ({ cls := "TwinCoresModel", name := "plain", desc := "(I)I" } : Jvm.MethodName)) ∈ gw := gw_of 687 rfl rfl
set_option maxRecDepth 20000 in
theorem gm_689 : (Jvm.Cond.instanceMethod ({ cls := "TwinCoresModel", name := "plain", desc := "(I)I" } : Jvm.MethodName)) ∈ gw := gw_of 689 rfl rfl
set_option maxRecDepth 20000 in
theorem gm_690 : (Jvm.Cond.code ({ cls := "TwinCoresModel", name := "plain", desc := "(I)I" } : Jvm.MethodName) prog_7_method_17_code (2 : Nat) (Option.some Jvm.ClassFile.FieldType.int)) ∈ gw := gw_of 690 rfl rfl
set_option maxRecDepth 20000 in
theorem gm_691 : (Jvm.Cond.methodLink "TwinCoresModel" (165 : Nat) ({ cls := "TwinCoresModel", name := "hasSharpLine", desc := "()Z" } : Jvm.MethodName)) ∈ gw := gw_of 691 rfl rfl
set_option maxRecDepth 20000 in
theorem gm_693 : (Jvm.Cond.instanceMethod ({ cls := "TwinCoresModel", name := "hasSharpLine", desc := "()Z" } : Jvm.MethodName)) ∈ gw := gw_of 693 rfl rfl
set_option maxRecDepth 20000 in
theorem gm_694 : (Jvm.Cond.code ({ cls := "TwinCoresModel", name := "hasSharpLine", desc := "()Z" } : Jvm.MethodName) prog_7_method_13_code (1 : Nat) (Option.some Jvm.ClassFile.FieldType.boolean)) ∈ gw := gw_of 694 rfl rfl
set_option maxRecDepth 20000 in
theorem gm_695 : (Jvm.Cond.methodLink "TwinCoresModel" (172 : Nat) ({ cls := "TwinCoresModel", name := "breakTo", desc := "(I)V" } : Jvm.MethodName)) ∈ gw := gw_of 695 rfl rfl
set_option maxRecDepth 20000 in
theorem gm_697 : (Jvm.Cond.instanceMethod ({ cls := "TwinCoresModel", name := "breakTo", desc := "(I)V" } : Jvm.MethodName)) ∈ gw := gw_of 697 rfl rfl
set_option maxRecDepth 20000 in
theorem gm_698 : (Jvm.Cond.code ({ cls := "TwinCoresModel", name := "breakTo", desc := "(I)V" } : Jvm.MethodName) prog_7_method_40_code (2 : Nat) (Option.none : Option Jvm.ClassFile.FieldType)) ∈ gw := gw_of 698 rfl rfl
set_option maxRecDepth 20000 in
theorem gm_699 : (Jvm.Cond.methodLink "TwinCoresModel" (155 : Nat) ({ cls := "TwinCoresModel", name := "pushWord", desc := "(I)V" } : Jvm.MethodName)) ∈ gw := gw_of 699 rfl rfl
set_option maxRecDepth 20000 in
theorem gm_701 : (Jvm.Cond.instanceMethod ({ cls := "TwinCoresModel", name := "pushWord", desc := "(I)V" } : Jvm.MethodName)) ∈ gw := gw_of 701 rfl rfl
set_option maxRecDepth 20000 in
theorem gm_702 : (Jvm.Cond.code ({ cls := "TwinCoresModel", name := "pushWord", desc := "(I)V" } : Jvm.MethodName) prog_7_method_24_code (2 : Nat) (Option.none : Option Jvm.ClassFile.FieldType)) ∈ gw := gw_of 702 rfl rfl
set_option maxRecDepth 20000 in
theorem gm_703 : (Jvm.Cond.methodLink "TwinCoresModel" (107 : Nat) ({ cls := "TwinCoresModel", name := "push", desc := "(I)V" } : Jvm.MethodName)) ∈ gw := gw_of 703 rfl rfl
set_option maxRecDepth 20000 in
theorem gm_705 : (Jvm.Cond.instanceMethod ({ cls := "TwinCoresModel", name := "push", desc := "(I)V" } : Jvm.MethodName)) ∈ gw := gw_of 705 rfl rfl
set_option maxRecDepth 20000 in
theorem gm_706 : (Jvm.Cond.code ({ cls := "TwinCoresModel", name := "push", desc := "(I)V" } : Jvm.MethodName) prog_7_method_22_code (2 : Nat) (Option.none : Option Jvm.ClassFile.FieldType)) ∈ gw := gw_of 706 rfl rfl
set_option maxRecDepth 20000 in
theorem gm_707 : (Jvm.Cond.methodLink "TwinCoresModel" (175 : Nat) ({ cls := "TwinCoresModel", name := "hasLine", desc := "(I)Z" } : Jvm.MethodName)) ∈ gw := gw_of 707 rfl rfl
set_option maxRecDepth 20000 in
theorem gm_709 : (Jvm.Cond.instanceMethod ({ cls := "TwinCoresModel", name := "hasLine", desc := "(I)Z" } : Jvm.MethodName)) ∈ gw := gw_of 709 rfl rfl
set_option maxRecDepth 20000 in
theorem gm_710 : (Jvm.Cond.code ({ cls := "TwinCoresModel", name := "hasLine", desc := "(I)Z" } : Jvm.MethodName) prog_7_method_12_code (2 : Nat) (Option.some Jvm.ClassFile.FieldType.boolean)) ∈ gw := gw_of 710 rfl rfl
set_option maxRecDepth 20000 in
theorem gm_711 : (Jvm.Cond.methodLink "TwinCoresModel" (124 : Nat) ({ cls := "TwinCoresModel", name := "has", desc := "(I)Z" } : Jvm.MethodName)) ∈ gw := gw_of 711 rfl rfl
set_option maxRecDepth 20000 in
theorem gm_713 : (Jvm.Cond.instanceMethod ({ cls := "TwinCoresModel", name := "has", desc := "(I)Z" } : Jvm.MethodName)) ∈ gw := gw_of 713 rfl rfl
set_option maxRecDepth 20000 in
theorem gm_714 : (Jvm.Cond.code ({ cls := "TwinCoresModel", name := "has", desc := "(I)Z" } : Jvm.MethodName) prog_7_method_27_code (2 : Nat) (Option.some Jvm.ClassFile.FieldType.boolean)) ∈ gw := gw_of 714 rfl rfl
set_option maxRecDepth 20000 in
theorem gm_715 : (Jvm.Cond.methodLink "TwinCoresModel" (103 : Nat) ({ cls := "TwinCoresModel", name := "fetch", desc := "()I" } : Jvm.MethodName)) ∈ gw := gw_of 715 rfl rfl
set_option maxRecDepth 20000 in
theorem gm_717 : (Jvm.Cond.instanceMethod ({ cls := "TwinCoresModel", name := "fetch", desc := "()I" } : Jvm.MethodName)) ∈ gw := gw_of 717 rfl rfl
set_option maxRecDepth 20000 in
theorem gm_718 : (Jvm.Cond.code ({ cls := "TwinCoresModel", name := "fetch", desc := "()I" } : Jvm.MethodName) prog_7_method_20_code (2 : Nat) (Option.some Jvm.ClassFile.FieldType.int)) ∈ gw := gw_of 718 rfl rfl
set_option maxRecDepth 20000 in
theorem gm_719 : (Jvm.Cond.methodLink "TwinCoresModel" (99 : Nat) ({ cls := "TwinCoresModel", name := "read", desc := "(I)I" } : Jvm.MethodName)) ∈ gw := gw_of 719 rfl rfl
set_option maxRecDepth 20000 in
theorem gm_721 : (Jvm.Cond.instanceMethod ({ cls := "TwinCoresModel", name := "read", desc := "(I)I" } : Jvm.MethodName)) ∈ gw := gw_of 721 rfl rfl
set_option maxRecDepth 20000 in
theorem gm_722 : (Jvm.Cond.code ({ cls := "TwinCoresModel", name := "read", desc := "(I)I" } : Jvm.MethodName) prog_7_method_15_code (3 : Nat) (Option.some Jvm.ClassFile.FieldType.int)) ∈ gw := gw_of 722 rfl rfl
set_option maxRecDepth 20000 in
theorem gm_723 : (Jvm.Cond.methodLink "TwinCoresModel" (85 : Nat) ({ cls := "TwinCoresModel", name := "portOf", desc := "(I)I" } : Jvm.MethodName)) ∈ gw := gw_of 723 rfl rfl
set_option maxRecDepth 20000 in
theorem gm_725 : (Jvm.Cond.instanceMethod ({ cls := "TwinCoresModel", name := "portOf", desc := "(I)I" } : Jvm.MethodName)) ∈ gw := gw_of 725 rfl rfl
set_option maxRecDepth 20000 in
theorem gm_726 : (Jvm.Cond.code ({ cls := "TwinCoresModel", name := "portOf", desc := "(I)I" } : Jvm.MethodName) prog_7_method_14_code (3 : Nat) (Option.some Jvm.ClassFile.FieldType.int)) ∈ gw := gw_of 726 rfl rfl
set_option maxRecDepth 20000 in
theorem gm_727 : (Jvm.Cond.constant "TwinCoresModel" (83 : Nat) (65248 : Int32)) ∈ gw := gw_of 727 rfl rfl
set_option maxRecDepth 20000 in
theorem gm_728 : (Jvm.Cond.constant "TwinCoresModel" (84 : Nat) (65272 : Int32)) ∈ gw := gw_of 728 rfl rfl
set_option maxRecDepth 20000 in
theorem gm_729 : (Jvm.Cond.methodLink "TwinCoresModel" (89 : Nat) ({ cls := "TwinCoresModel", name := "readPort", desc := "(II)I" } : Jvm.MethodName)) ∈ gw := gw_of 729 rfl rfl
set_option maxRecDepth 20000 in
theorem gm_731 : (Jvm.Cond.instanceMethod ({ cls := "TwinCoresModel", name := "readPort", desc := "(II)I" } : Jvm.MethodName)) ∈ gw := gw_of 731 rfl rfl
set_option maxRecDepth 20000 in
theorem gm_732 : (Jvm.Cond.code ({ cls := "TwinCoresModel", name := "readPort", desc := "(II)I" } : Jvm.MethodName) prog_7_method_10_code (6 : Nat) (Option.some Jvm.ClassFile.FieldType.int)) ∈ gw := gw_of 732 rfl rfl
set_option maxRecDepth 20000 in
theorem gm_733 : (Jvm.Cond.methodLink "TwinCoresModel" (77 : Nat) ({ cls := "TwinCoresModel", name := "peekPort", desc := "(II)I" } : Jvm.MethodName)) ∈ gw := gw_of 733 rfl rfl
set_option maxRecDepth 20000 in
theorem gm_735 : (Jvm.Cond.instanceMethod ({ cls := "TwinCoresModel", name := "peekPort", desc := "(II)I" } : Jvm.MethodName)) ∈ gw := gw_of 735 rfl rfl
set_option maxRecDepth 20000 in
theorem gm_736 : (Jvm.Cond.code ({ cls := "TwinCoresModel", name := "peekPort", desc := "(II)I" } : Jvm.MethodName) prog_7_method_9_code (7 : Nat) (Option.some Jvm.ClassFile.FieldType.int)) ∈ gw := gw_of 736 rfl rfl
set_option maxRecDepth 20000 in
theorem gm_737 : (Jvm.Cond.methodLink "TwinCoresModel" (73 : Nat) ({ cls := "TwinCoresModel", name := "room", desc := "(II)I" } : Jvm.MethodName)) ∈ gw := gw_of 737 rfl rfl
set_option maxRecDepth 20000 in
theorem gm_739 : (Jvm.Cond.instanceMethod ({ cls := "TwinCoresModel", name := "room", desc := "(II)I" } : Jvm.MethodName)) ∈ gw := gw_of 739 rfl rfl
set_option maxRecDepth 20000 in
theorem gm_740 : (Jvm.Cond.code ({ cls := "TwinCoresModel", name := "room", desc := "(II)I" } : Jvm.MethodName) prog_7_method_8_code (3 : Nat) (Option.some Jvm.ClassFile.FieldType.int)) ∈ gw := gw_of 740 rfl rfl
set_option maxRecDepth 20000 in
theorem gm_741 : (Jvm.Cond.constant "TwinCoresModel" (102 : Nat) (65535 : Int32)) ∈ gw := gw_of 741 rfl rfl
set_option maxRecDepth 20000 in
theorem gm_742 : (Jvm.Cond.methodLink "TwinCoresModel" (178 : Nat) ({ cls := "TwinCoresModel", name := "isKnown", desc := "(I)Z" } : Jvm.MethodName)) ∈ gw := gw_of 742 rfl rfl
set_option maxRecDepth 20000 in
theorem gm_743 : (Jvm.Cond.static ({ cls := "TwinCoresModel", name := "isKnown", desc := "(I)Z" } : Jvm.MethodName)) ∈ gw := gw_of 743 rfl rfl
set_option maxRecDepth 20000 in
theorem gm_744 : (Jvm.Cond.code ({ cls := "TwinCoresModel", name := "isKnown", desc := "(I)Z" } : Jvm.MethodName) prog_7_method_30_code (4 : Nat) (Option.some Jvm.ClassFile.FieldType.boolean)) ∈ gw := gw_of 744 rfl rfl
set_option maxRecDepth 20000 in
theorem gm_745 : (Jvm.Cond.methodLink "TwinCoresModel" (181 : Nat) ({ cls := "TwinCoresModel", name := "withA", desc := "(I)V" } : Jvm.MethodName)) ∈ gw := gw_of 745 rfl rfl
set_option maxRecDepth 20000 in
theorem gm_747 : (Jvm.Cond.instanceMethod ({ cls := "TwinCoresModel", name := "withA", desc := "(I)V" } : Jvm.MethodName)) ∈ gw := gw_of 747 rfl rfl
set_option maxRecDepth 20000 in
theorem gm_748 : (Jvm.Cond.code ({ cls := "TwinCoresModel", name := "withA", desc := "(I)V" } : Jvm.MethodName) prog_7_method_34_code (5 : Nat) (Option.none : Option Jvm.ClassFile.FieldType)) ∈ gw := gw_of 748 rfl rfl
set_option maxRecDepth 20000 in
theorem gm_749 : (Jvm.Cond.methodLink "TwinCoresModel" (130 : Nat) ({ cls := "TwinCoresModel", name := "way", desc := "(I)I" } : Jvm.MethodName)) ∈ gw := gw_of 749 rfl rfl
set_option maxRecDepth 20000 in
theorem gm_750 : (Jvm.Cond.static ({ cls := "TwinCoresModel", name := "way", desc := "(I)I" } : Jvm.MethodName)) ∈ gw := gw_of 750 rfl rfl
set_option maxRecDepth 20000 in
theorem gm_751 : (Jvm.Cond.code ({ cls := "TwinCoresModel", name := "way", desc := "(I)I" } : Jvm.MethodName) prog_7_method_29_code (3 : Nat) (Option.some Jvm.ClassFile.FieldType.int)) ∈ gw := gw_of 751 rfl rfl
set_option maxRecDepth 20000 in
theorem gm_752 : (Jvm.Cond.methodLink "TwinCoresModel" (133 : Nat) ({ cls := "TwinCoresModel", name := "placeBy", desc := "(I)I" } : Jvm.MethodName)) ∈ gw := gw_of 752 rfl rfl
set_option maxRecDepth 20000 in
theorem gm_754 : (Jvm.Cond.instanceMethod ({ cls := "TwinCoresModel", name := "placeBy", desc := "(I)I" } : Jvm.MethodName)) ∈ gw := gw_of 754 rfl rfl
set_option maxRecDepth 20000 in
theorem gm_755 : (Jvm.Cond.code ({ cls := "TwinCoresModel", name := "placeBy", desc := "(I)I" } : Jvm.MethodName) prog_7_method_31_code (2 : Nat) (Option.some Jvm.ClassFile.FieldType.int)) ∈ gw := gw_of 755 rfl rfl
set_option maxRecDepth 20000 in
theorem gm_756 : (Jvm.Cond.methodLink "TwinCoresModel" (118 : Nat) ({ cls := "TwinCoresModel", name := "fetchWord", desc := "()I" } : Jvm.MethodName)) ∈ gw := gw_of 756 rfl rfl
set_option maxRecDepth 20000 in
theorem gm_758 : (Jvm.Cond.instanceMethod ({ cls := "TwinCoresModel", name := "fetchWord", desc := "()I" } : Jvm.MethodName)) ∈ gw := gw_of 758 rfl rfl
set_option maxRecDepth 20000 in
theorem gm_759 : (Jvm.Cond.code ({ cls := "TwinCoresModel", name := "fetchWord", desc := "()I" } : Jvm.MethodName) prog_7_method_21_code (2 : Nat) (Option.some Jvm.ClassFile.FieldType.int)) ∈ gw := gw_of 759 rfl rfl
set_option maxRecDepth 20000 in
theorem gm_760 : (Jvm.Cond.methodLink "TwinCoresModel" (121 : Nat) ({ cls := "TwinCoresModel", name := "lowWord", desc := "(I)I" } : Jvm.MethodName)) ∈ gw := gw_of 760 rfl rfl
set_option maxRecDepth 20000 in
theorem gm_762 : (Jvm.Cond.instanceMethod ({ cls := "TwinCoresModel", name := "lowWord", desc := "(I)I" } : Jvm.MethodName)) ∈ gw := gw_of 762 rfl rfl
set_option maxRecDepth 20000 in
theorem gm_763 : (Jvm.Cond.code ({ cls := "TwinCoresModel", name := "lowWord", desc := "(I)I" } : Jvm.MethodName) prog_7_method_19_code (2 : Nat) (Option.some Jvm.ClassFile.FieldType.int)) ∈ gw := gw_of 763 rfl rfl
set_option maxRecDepth 20000 in
theorem gm_764 : (Jvm.Cond.methodLink "TwinCoresModel" (136 : Nat) ({ cls := "TwinCoresModel", name := "write", desc := "(II)V" } : Jvm.MethodName)) ∈ gw := gw_of 764 rfl rfl
set_option maxRecDepth 20000 in
theorem gm_766 : (Jvm.Cond.instanceMethod ({ cls := "TwinCoresModel", name := "write", desc := "(II)V" } : Jvm.MethodName)) ∈ gw := gw_of 766 rfl rfl
set_option maxRecDepth 20000 in
theorem gm_767 : (Jvm.Cond.code ({ cls := "TwinCoresModel", name := "write", desc := "(II)V" } : Jvm.MethodName) prog_7_method_16_code (4 : Nat) (Option.none : Option Jvm.ClassFile.FieldType)) ∈ gw := gw_of 767 rfl rfl
set_option maxRecDepth 20000 in
theorem gm_768 : (Jvm.Cond.methodLink "TwinCoresModel" (92 : Nat) ({ cls := "TwinCoresModel", name := "writePort", desc := "(III)V" } : Jvm.MethodName)) ∈ gw := gw_of 768 rfl rfl
set_option maxRecDepth 20000 in
theorem gm_770 : (Jvm.Cond.instanceMethod ({ cls := "TwinCoresModel", name := "writePort", desc := "(III)V" } : Jvm.MethodName)) ∈ gw := gw_of 770 rfl rfl
set_option maxRecDepth 20000 in
theorem gm_771 : (Jvm.Cond.code ({ cls := "TwinCoresModel", name := "writePort", desc := "(III)V" } : Jvm.MethodName) prog_7_method_11_code (5 : Nat) (Option.none : Option Jvm.ClassFile.FieldType)) ∈ gw := gw_of 771 rfl rfl
set_option maxRecDepth 20000 in
theorem gm_772 : (Jvm.Cond.methodLink "TwinCoresModel" (127 : Nat) ({ cls := "TwinCoresModel", name := "seen", desc := "(I)I" } : Jvm.MethodName)) ∈ gw := gw_of 772 rfl rfl
set_option maxRecDepth 20000 in
theorem gm_774 : (Jvm.Cond.instanceMethod ({ cls := "TwinCoresModel", name := "seen", desc := "(I)I" } : Jvm.MethodName)) ∈ gw := gw_of 774 rfl rfl
set_option maxRecDepth 20000 in
theorem gm_775 : (Jvm.Cond.code ({ cls := "TwinCoresModel", name := "seen", desc := "(I)I" } : Jvm.MethodName) prog_7_method_28_code (3 : Nat) (Option.some Jvm.ClassFile.FieldType.int)) ∈ gw := gw_of 775 rfl rfl
set_option maxRecDepth 20000 in
theorem gm_776 : (Jvm.Cond.methodLink "TwinCoresModel" (140 : Nat) ({ cls := "TwinCoresModel", name := "add", desc := "(I)V" } : Jvm.MethodName)) ∈ gw := gw_of 776 rfl rfl
set_option maxRecDepth 20000 in
theorem gm_778 : (Jvm.Cond.instanceMethod ({ cls := "TwinCoresModel", name := "add", desc := "(I)V" } : Jvm.MethodName)) ∈ gw := gw_of 778 rfl rfl
set_option maxRecDepth 20000 in
theorem gm_779 : (Jvm.Cond.code ({ cls := "TwinCoresModel", name := "add", desc := "(I)V" } : Jvm.MethodName) prog_7_method_32_code (3 : Nat) (Option.none : Option Jvm.ClassFile.FieldType)) ∈ gw := gw_of 779 rfl rfl
set_option maxRecDepth 20000 in
theorem gm_780 : (Jvm.Cond.methodLink "TwinCoresModel" (143 : Nat) ({ cls := "TwinCoresModel", name := "compare", desc := "(II)V" } : Jvm.MethodName)) ∈ gw := gw_of 780 rfl rfl
set_option maxRecDepth 20000 in
theorem gm_782 : (Jvm.Cond.instanceMethod ({ cls := "TwinCoresModel", name := "compare", desc := "(II)V" } : Jvm.MethodName)) ∈ gw := gw_of 782 rfl rfl
set_option maxRecDepth 20000 in
theorem gm_783 : (Jvm.Cond.code ({ cls := "TwinCoresModel", name := "compare", desc := "(II)V" } : Jvm.MethodName) prog_7_method_33_code (3 : Nat) (Option.none : Option Jvm.ClassFile.FieldType)) ∈ gw := gw_of 783 rfl rfl
set_option maxRecDepth 20000 in
theorem gm_784 : (Jvm.Cond.methodLink "TwinCoresModel" (184 : Nat) ({ cls := "TwinCoresModel", name := "changes", desc := "(I)V" } : Jvm.MethodName)) ∈ gw := gw_of 784 rfl rfl
set_option maxRecDepth 20000 in
theorem gm_786 : (Jvm.Cond.instanceMethod ({ cls := "TwinCoresModel", name := "changes", desc := "(I)V" } : Jvm.MethodName)) ∈ gw := gw_of 786 rfl rfl
set_option maxRecDepth 20000 in
theorem gm_787 : (Jvm.Cond.code ({ cls := "TwinCoresModel", name := "changes", desc := "(I)V" } : Jvm.MethodName) prog_7_method_36_code (5 : Nat) (Option.none : Option Jvm.ClassFile.FieldType)) ∈ gw := gw_of 787 rfl rfl
set_option maxRecDepth 20000 in
theorem gm_788 : (Jvm.Cond.methodLink "TwinCoresModel" (146 : Nat) ({ cls := "TwinCoresModel", name := "changed", desc := "(II)I" } : Jvm.MethodName)) ∈ gw := gw_of 788 rfl rfl
set_option maxRecDepth 20000 in
theorem gm_790 : (Jvm.Cond.instanceMethod ({ cls := "TwinCoresModel", name := "changed", desc := "(II)I" } : Jvm.MethodName)) ∈ gw := gw_of 790 rfl rfl
set_option maxRecDepth 20000 in
theorem gm_791 : (Jvm.Cond.code ({ cls := "TwinCoresModel", name := "changed", desc := "(II)I" } : Jvm.MethodName) prog_7_method_35_code (4 : Nat) (Option.some Jvm.ClassFile.FieldType.int)) ∈ gw := gw_of 791 rfl rfl
set_option maxRecDepth 20000 in
theorem gm_792 : (Jvm.Cond.methodLink "TwinCoresModel" (149 : Nat) ({ cls := "TwinCoresModel", name := "registers", desc := "(I)V" } : Jvm.MethodName)) ∈ gw := gw_of 792 rfl rfl
set_option maxRecDepth 20000 in
theorem gm_794 : (Jvm.Cond.instanceMethod ({ cls := "TwinCoresModel", name := "registers", desc := "(I)V" } : Jvm.MethodName)) ∈ gw := gw_of 794 rfl rfl
set_option maxRecDepth 20000 in
theorem gm_795 : (Jvm.Cond.code ({ cls := "TwinCoresModel", name := "registers", desc := "(I)V" } : Jvm.MethodName) prog_7_method_37_code (2 : Nat) (Option.none : Option Jvm.ClassFile.FieldType)) ∈ gw := gw_of 795 rfl rfl
set_option maxRecDepth 20000 in
theorem gm_796 : (Jvm.Cond.methodLink "TwinCoresModel" (111 : Nat) ({ cls := "TwinCoresModel", name := "pull", desc := "()I" } : Jvm.MethodName)) ∈ gw := gw_of 796 rfl rfl
set_option maxRecDepth 20000 in
theorem gm_798 : (Jvm.Cond.instanceMethod ({ cls := "TwinCoresModel", name := "pull", desc := "()I" } : Jvm.MethodName)) ∈ gw := gw_of 798 rfl rfl
set_option maxRecDepth 20000 in
theorem gm_799 : (Jvm.Cond.code ({ cls := "TwinCoresModel", name := "pull", desc := "()I" } : Jvm.MethodName) prog_7_method_23_code (1 : Nat) (Option.some Jvm.ClassFile.FieldType.int)) ∈ gw := gw_of 799 rfl rfl
set_option maxRecDepth 20000 in
theorem gm_800 : (Jvm.Cond.methodLink "TwinCoresModel" (187 : Nat) ({ cls := "TwinCoresModel", name := "others", desc := "(I)V" } : Jvm.MethodName)) ∈ gw := gw_of 800 rfl rfl
set_option maxRecDepth 20000 in
theorem gm_802 : (Jvm.Cond.instanceMethod ({ cls := "TwinCoresModel", name := "others", desc := "(I)V" } : Jvm.MethodName)) ∈ gw := gw_of 802 rfl rfl
set_option maxRecDepth 20000 in
theorem gm_803 : (Jvm.Cond.code ({ cls := "TwinCoresModel", name := "others", desc := "(I)V" } : Jvm.MethodName) prog_7_method_39_code (6 : Nat) (Option.none : Option Jvm.ClassFile.FieldType)) ∈ gw := gw_of 803 rfl rfl
set_option maxRecDepth 20000 in
theorem gm_804 : (Jvm.Cond.methodLink "TwinCoresModel" (152 : Nat) ({ cls := "TwinCoresModel", name := "goes", desc := "(I)V" } : Jvm.MethodName)) ∈ gw := gw_of 804 rfl rfl
set_option maxRecDepth 20000 in
theorem gm_806 : (Jvm.Cond.instanceMethod ({ cls := "TwinCoresModel", name := "goes", desc := "(I)V" } : Jvm.MethodName)) ∈ gw := gw_of 806 rfl rfl
set_option maxRecDepth 20000 in
theorem gm_807 : (Jvm.Cond.code ({ cls := "TwinCoresModel", name := "goes", desc := "(I)V" } : Jvm.MethodName) prog_7_method_38_code (4 : Nat) (Option.none : Option Jvm.ClassFile.FieldType)) ∈ gw := gw_of 807 rfl rfl
set_option maxRecDepth 20000 in
theorem gm_808 : (Jvm.Cond.methodLink "TwinCoresModel" (161 : Nat) ({ cls := "TwinCoresModel", name := "pullWord", desc := "()I" } : Jvm.MethodName)) ∈ gw := gw_of 808 rfl rfl
set_option maxRecDepth 20000 in
theorem gm_810 : (Jvm.Cond.instanceMethod ({ cls := "TwinCoresModel", name := "pullWord", desc := "()I" } : Jvm.MethodName)) ∈ gw := gw_of 810 rfl rfl
set_option maxRecDepth 20000 in
theorem gm_811 : (Jvm.Cond.code ({ cls := "TwinCoresModel", name := "pullWord", desc := "()I" } : Jvm.MethodName) prog_7_method_25_code (2 : Nat) (Option.some Jvm.ClassFile.FieldType.int)) ∈ gw := gw_of 811 rfl rfl
set_option maxRecDepth 20000 in
theorem gm_812 : (Jvm.Cond.constant "TwinCoresModel" (164 : Nat) (65280 : Int32)) ∈ gw := gw_of 812 rfl rfl
set_option maxRecDepth 20000 in
theorem gm_813 : (Jvm.Cond.methodLink "TwinCoresLaw" (58 : Nat) ({ cls := "TwinCoresModel", name := "reset", desc := "(I)V" } : Jvm.MethodName)) ∈ gw := gw_of 813 rfl rfl
set_option maxRecDepth 20000 in
theorem gm_814 : (Jvm.Cond.instanceMethod ({ cls := "TwinCoresModel", name := "reset", desc := "(I)V" } : Jvm.MethodName)) ∈ gw := gw_of 814 rfl rfl
set_option maxRecDepth 20000 in
theorem gm_815 : (Jvm.Cond.selects "TwinCoresModel" ({ cls := "TwinCoresModel", name := "reset", desc := "(I)V" } : Jvm.MethodName) ({ cls := "TwinCoresModel", name := "reset", desc := "(I)V" } : Jvm.MethodName)) ∈ gw := gw_of 815 rfl rfl
set_option maxRecDepth 20000 in
theorem gm_816 : (Jvm.Cond.code ({ cls := "TwinCoresModel", name := "reset", desc := "(I)V" } : Jvm.MethodName) prog_7_method_44_code (2 : Nat) (Option.none : Option Jvm.ClassFile.FieldType)) ∈ gw := gw_of 816 rfl rfl
set_option maxRecDepth 20000 in
theorem gm_817 : (Jvm.Cond.methodLink "TwinCoresLaw" (64 : Nat) ({ cls := "TwinCoresModel", name := "register", desc := "(II)I" } : Jvm.MethodName)) ∈ gw := gw_of 817 rfl rfl
set_option maxRecDepth 20000 in
theorem gm_818 : (Jvm.Cond.instanceMethod ({ cls := "TwinCoresModel", name := "register", desc := "(II)I" } : Jvm.MethodName)) ∈ gw := gw_of 818 rfl rfl
set_option maxRecDepth 20000 in
theorem gm_819 : (Jvm.Cond.selects "TwinCoresModel" ({ cls := "TwinCoresModel", name := "register", desc := "(II)I" } : Jvm.MethodName) ({ cls := "TwinCoresModel", name := "register", desc := "(II)I" } : Jvm.MethodName)) ∈ gw := gw_of 819 rfl rfl
set_option maxRecDepth 20000 in
theorem gm_820 : (Jvm.Cond.code ({ cls := "TwinCoresModel", name := "register", desc := "(II)I" } : Jvm.MethodName) prog_7_method_45_code (3 : Nat) (Option.some Jvm.ClassFile.FieldType.int)) ∈ gw := gw_of 820 rfl rfl
set_option maxRecDepth 20000 in
theorem gm_821 : (Jvm.Cond.methodLink "TwinCoresLaw" (67 : Nat) ({ cls := "TwinCoresModel", name := "port", desc := "(II)I" } : Jvm.MethodName)) ∈ gw := gw_of 821 rfl rfl
set_option maxRecDepth 20000 in
theorem gm_822 : (Jvm.Cond.instanceMethod ({ cls := "TwinCoresModel", name := "port", desc := "(II)I" } : Jvm.MethodName)) ∈ gw := gw_of 822 rfl rfl
set_option maxRecDepth 20000 in
theorem gm_823 : (Jvm.Cond.selects "TwinCoresModel" ({ cls := "TwinCoresModel", name := "port", desc := "(II)I" } : Jvm.MethodName) ({ cls := "TwinCoresModel", name := "port", desc := "(II)I" } : Jvm.MethodName)) ∈ gw := gw_of 823 rfl rfl
set_option maxRecDepth 20000 in
theorem gm_824 : (Jvm.Cond.code ({ cls := "TwinCoresModel", name := "port", desc := "(II)I" } : Jvm.MethodName) prog_7_method_46_code (3 : Nat) (Option.some Jvm.ClassFile.FieldType.int)) ∈ gw := gw_of 824 rfl rfl
set_option maxRecDepth 20000 in
theorem gm_825 : (Jvm.Cond.methodLink "TwinCoresLaw" (70 : Nat) ({ cls := "TwinCoresModel", name := "waits", desc := "(II)I" } : Jvm.MethodName)) ∈ gw := gw_of 825 rfl rfl
set_option maxRecDepth 20000 in
theorem gm_826 : (Jvm.Cond.instanceMethod ({ cls := "TwinCoresModel", name := "waits", desc := "(II)I" } : Jvm.MethodName)) ∈ gw := gw_of 826 rfl rfl
set_option maxRecDepth 20000 in
theorem gm_827 : (Jvm.Cond.selects "TwinCoresModel" ({ cls := "TwinCoresModel", name := "waits", desc := "(II)I" } : Jvm.MethodName) ({ cls := "TwinCoresModel", name := "waits", desc := "(II)I" } : Jvm.MethodName)) ∈ gw := gw_of 827 rfl rfl
set_option maxRecDepth 20000 in
theorem gm_828 : (Jvm.Cond.code ({ cls := "TwinCoresModel", name := "waits", desc := "(II)I" } : Jvm.MethodName) prog_7_method_47_code (3 : Nat) (Option.some Jvm.ClassFile.FieldType.int)) ∈ gw := gw_of 828 rfl rfl
set_option maxRecDepth 20000 in
theorem gm_829 : (Jvm.Cond.methodLink "TwinCoresLaw" (74 : Nat) ({ cls := "TwinCoresModel", name := "steps", desc := "(I)J" } : Jvm.MethodName)) ∈ gw := gw_of 829 rfl rfl
set_option maxRecDepth 20000 in
theorem gm_830 : (Jvm.Cond.instanceMethod ({ cls := "TwinCoresModel", name := "steps", desc := "(I)J" } : Jvm.MethodName)) ∈ gw := gw_of 830 rfl rfl
set_option maxRecDepth 20000 in
theorem gm_831 : (Jvm.Cond.selects "TwinCoresModel" ({ cls := "TwinCoresModel", name := "steps", desc := "(I)J" } : Jvm.MethodName) ({ cls := "TwinCoresModel", name := "steps", desc := "(I)J" } : Jvm.MethodName)) ∈ gw := gw_of 831 rfl rfl
set_option maxRecDepth 20000 in
theorem gm_832 : (Jvm.Cond.code ({ cls := "TwinCoresModel", name := "steps", desc := "(I)J" } : Jvm.MethodName) prog_7_method_48_code (2 : Nat) (Option.some Jvm.ClassFile.FieldType.long)) ∈ gw := gw_of 832 rfl rfl
