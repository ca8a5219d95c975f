theorem xW_in : ∀ w ∈ xW, w ∈ lw_tbl ∨ w ∈ flatC (Jvm.Cond.and given_1 narrow_1) := by decide +kernel
theorem xS_in : ∀ q ∈ xS, Cond.stringRef RX4 q.1 q.2 ∈ lw_tbl := by decide +kernel
theorem x_words {p : Program} {s : State} {m : MethodId} {meth : Method} {c : Code} {b L : Nat} {xs : Nat → Int32} (C0 : lw_At p s m meth c b L xs) : bx_X xW s ∧ bx_S RX4 xS s ∧ bx_N "java/lang/IllegalArgumentException" "java/lang/IndexOutOfBoundsException" s ∧ bx_N "java/lang/IllegalStateException" "java/lang/IndexOutOfBoundsException" s := by
  obtain ⟨hx, hb, hr, hml, hown, hts, hXs, hbl, hlocks, hgv⟩ := C0
  have hs := flat_of_before _ hgv
  have hX : bx_X xW s := bx_X.of (a0 := #[Value.ref b]) xW_ok (State.WarmedH.refl s) (fun _ _ => rfl) (fun w hw => by
    rcases xW_in w hw with h9 | h9
    · exact hts w h9
    · exact hs w h9)
  obtain ⟨c1, c1', e1, -, -⟩ := Cond.castable_spec (hX (.castable "java/lang/IllegalArgumentException" "java/lang/IllegalArgumentException") (by decide +kernel) #[Value.ref b])
  obtain ⟨c2, c2', e2, -, -⟩ := Cond.castable_spec (hX (.castable "java/lang/IndexOutOfBoundsException" "java/lang/IndexOutOfBoundsException") (by decide +kernel) #[Value.ref b])
  obtain ⟨c3, c3', e3, -, -⟩ := Cond.castable_spec (hX (.castable "java/lang/IllegalStateException" "java/lang/IllegalStateException") (by decide +kernel) #[Value.ref b])
  refine ⟨hX, ?_, bx_N.of e1 e2 (hs (.not (.castable "java/lang/IllegalArgumentException" "java/lang/IndexOutOfBoundsException")) (by decide +kernel)), bx_N.of e3 e2 (hs (.not (.castable "java/lang/IllegalStateException" "java/lang/IndexOutOfBoundsException")) (by decide +kernel))⟩
  intro q hq
  have h8 := hts _ (xS_in q hq)
  obtain ⟨mk, hn⟩ := Cond.code_named (hts (.code yX4_net cX4_net 1 (some .int)) (by decide +kernel))
  have h4 : s.vm.findClass RX4 = some mk.cls := findClass_of_methodNamed hn
  obtain ⟨k, cf, i, a', hk, hcf, hcp, -, hr, hev⟩ := Cond.stringRef_spec h4 h8
  exact ⟨a', vk_R.of h8 hev⟩
