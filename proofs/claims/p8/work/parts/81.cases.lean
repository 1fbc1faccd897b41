/-! THE LAW'S CASES AND STEP over the state -/
set_option maxHeartbeats 2000000 in
theorem t_La_c0 {n0 : Nat} (hn0 : big n0) {xs : Nat → Int32} {L : Nat} (hL : L ≤ 3072) (S : mS) (x4 : Int32) (h0 : 0 ≤ x4.toInt) (h1 : x4.toInt + 6 ≤ L) (hI : Inv S) : tot (f_La_c0 n0 xs L (hp S) x4 66 50 0) (fun _ S' => Inv S') := by
  unfold f_La_c0
  obtain ⟨f, b, hG⟩ := hI
  have k1 : (x4 + 1 : Int32).toInt = x4.toInt + (1 : Int32).toInt := nt_add (by have : (1 : Int32).toInt = 1 := rfl; omega) (by have : (1 : Int32).toInt = 1 := rfl; omega)
  rw [show (1 : Int32).toInt = 1 from rfl] at k1
  have k2 : (x4 + 2 : Int32).toInt = x4.toInt + (2 : Int32).toInt := nt_add (by have : (2 : Int32).toInt = 2 := rfl; omega) (by have : (2 : Int32).toInt = 2 := rfl; omega)
  rw [show (2 : Int32).toInt = 2 from rfl] at k2
  have k3 : (x4 + 3 : Int32).toInt = x4.toInt + (3 : Int32).toInt := nt_add (by have : (3 : Int32).toInt = 3 := rfl; omega) (by have : (3 : Int32).toInt = 3 := rfl; omega)
  rw [show (3 : Int32).toInt = 3 from rfl] at k3
  have k4 : (x4 + 4 : Int32).toInt = x4.toInt + (4 : Int32).toInt := nt_add (by have : (4 : Int32).toInt = 4 := rfl; omega) (by have : (4 : Int32).toInt = 4 := rfl; omega)
  rw [show (4 : Int32).toInt = 4 from rfl] at k4
  have k5 : (x4 + 5 : Int32).toInt = x4.toInt + (5 : Int32).toInt := nt_add (by have : (5 : Int32).toInt = 5 := rfl; omega) (by have : (5 : Int32).toInt = 5 := rfl; omega)
  rw [show (5 : Int32).toInt = 5 from rfl] at k5
  refine msl_v (nt_in (by omega) (by omega)) (fun v1 ev1 => ?_)
  refine msl_v (nt_in (by omega) (by omega)) (fun v2 ev2 => ?_)
  refine msl_v (nt_in (by omega) (by omega)) (fun v3 ev3 => ?_)
  refine msl_v (nt_in (by omega) (by omega)) (fun v4 ev4 => ?_)
  refine msl_v (nt_in (by omega) (by omega)) (fun v5 ev5 => ?_)
  refine mis_t (hp_0 _) ?_
  refine mcl_v (t_SF_feed hn0 _ v1 v2 v3 v4 v5 hG) (fun v7 S1 hGS1 => ?_)
  refine msl_v (nt_in (by omega) (by omega)) (fun v9 ev9 => ?_)
  have qv9 : v9 = v1 := ev9.trans ev1.symm
  clear ev9
  subst qv9
  refine msl_v (nt_in (by omega) (by omega)) (fun v10 ev10 => ?_)
  have qv10 : v10 = v2 := ev10.trans ev2.symm
  clear ev10
  subst qv10
  refine msl_v (nt_in (by omega) (by omega)) (fun v11 ev11 => ?_)
  have qv11 : v11 = v3 := ev11.trans ev3.symm
  clear ev11
  subst qv11
  refine msl_v (nt_in (by omega) (by omega)) (fun v12 ev12 => ?_)
  have qv12 : v12 = v4 := ev12.trans ev4.symm
  clear ev12
  subst qv12
  refine msl_v (nt_in (by omega) (by omega)) (fun v13 ev13 => ?_)
  have qv13 : v13 = v5 := ev13.trans ev5.symm
  clear ev13
  subst qv13
  refine mis_t (hp_50 _) ?_
  refine mcl_v (t_Mo_feed hn0 _ v9 v10 v11 v12 v13 hGS1) (fun v15 S2 hGS2 => ?_)
  exact tot_end ⟨_, _, hGS2⟩
set_option maxHeartbeats 2000000 in
theorem t_La_c1 {n0 : Nat} (hn0 : big n0) {xs : Nat → Int32} {L : Nat} (hL : L ≤ 3072) (S : mS) (x4 : Int32) (h0 : 0 ≤ x4.toInt) (h1 : x4.toInt + 6 ≤ L) (hI : Inv S) : tot (f_La_c1 n0 xs L (hp S) x4 66 50 0) (fun _ S' => Inv S') := by
  unfold f_La_c1
  obtain ⟨f, b, hG⟩ := hI
  have k1 : (x4 + 1 : Int32).toInt = x4.toInt + (1 : Int32).toInt := nt_add (by have : (1 : Int32).toInt = 1 := rfl; omega) (by have : (1 : Int32).toInt = 1 := rfl; omega)
  rw [show (1 : Int32).toInt = 1 from rfl] at k1
  have k2 : (x4 + 2 : Int32).toInt = x4.toInt + (2 : Int32).toInt := nt_add (by have : (2 : Int32).toInt = 2 := rfl; omega) (by have : (2 : Int32).toInt = 2 := rfl; omega)
  rw [show (2 : Int32).toInt = 2 from rfl] at k2
  refine msl_v (nt_in (by omega) (by omega)) (fun v1 ev1 => ?_)
  refine msl_v (nt_in (by omega) (by omega)) (fun v2 ev2 => ?_)
  refine mcl_v (t_La_put hn0 _ v1 v2 hG) (fun v3 S1 hGS1 => ?_)
  refine msl_v (nt_in (by omega) (by omega)) (fun v5 ev5 => ?_)
  have qv5 : v5 = v1 := ev5.trans ev1.symm
  clear ev5
  subst qv5
  refine msl_v (nt_in (by omega) (by omega)) (fun v6 ev6 => ?_)
  have qv6 : v6 = v2 := ev6.trans ev2.symm
  clear ev6
  subst qv6
  refine mis_t (hp_50 _) ?_
  refine mcl_v (t_Mo_put hn0 _ v5 v6 hGS1) (fun v8 S2 hGS2 => ?_)
  exact tot_end ⟨_, _, hGS2⟩
set_option maxHeartbeats 2000000 in
theorem t_La_c2 {n0 : Nat} (hn0 : big n0) {xs : Nat → Int32} {L : Nat} (hL : L ≤ 3072) (S : mS) (x4 : Int32) (h0 : 0 ≤ x4.toInt) (h1 : x4.toInt + 6 ≤ L) (hI : Inv S) : tot (f_La_c2 n0 xs L (hp S) x4 66 50 0) (fun _ S' => Inv S') := by
  unfold f_La_c2
  obtain ⟨f, b, hG⟩ := hI
  have k1 : (x4 + 1 : Int32).toInt = x4.toInt + (1 : Int32).toInt := nt_add (by have : (1 : Int32).toInt = 1 := rfl; omega) (by have : (1 : Int32).toInt = 1 := rfl; omega)
  rw [show (1 : Int32).toInt = 1 from rfl] at k1
  refine msl_v (nt_in (by omega) (by omega)) (fun v1 ev1 => ?_)
  refine mcl_v (t_La_cut hn0 _ v1 hG) (fun v2 S1 hGS1 => ?_)
  refine msl_v (nt_in (by omega) (by omega)) (fun v4 ev4 => ?_)
  have qv4 : v4 = v1 := ev4.trans ev1.symm
  clear ev4
  subst qv4
  refine mis_t (hp_50 _) ?_
  refine mcl_v (t_Mo_cut hn0 _ v4 hGS1) (fun v6 S2 hGS2 => ?_)
  exact tot_end ⟨_, _, hGS2⟩
set_option maxHeartbeats 2000000 in
theorem t_La_c3 {n0 : Nat} (hn0 : big n0) {xs : Nat → Int32} {L : Nat} (hL : L ≤ 3072) (S : mS) (x4 : Int32) (h0 : 0 ≤ x4.toInt) (h1 : x4.toInt + 6 ≤ L) (hI : Inv S) : tot (f_La_c3 n0 xs L (hp S) x4 66 50 0) (fun _ S' => Inv S') := by
  unfold f_La_c3
  obtain ⟨f, b, hG⟩ := hI
  have k1 : (x4 + 1 : Int32).toInt = x4.toInt + (1 : Int32).toInt := nt_add (by have : (1 : Int32).toInt = 1 := rfl; omega) (by have : (1 : Int32).toInt = 1 := rfl; omega)
  rw [show (1 : Int32).toInt = 1 from rfl] at k1
  have k2 : (x4 + 2 : Int32).toInt = x4.toInt + (2 : Int32).toInt := nt_add (by have : (2 : Int32).toInt = 2 := rfl; omega) (by have : (2 : Int32).toInt = 2 := rfl; omega)
  rw [show (2 : Int32).toInt = 2 from rfl] at k2
  refine msl_v (nt_in (by omega) (by omega)) (fun v1 ev1 => ?_)
  refine msl_v (nt_in (by omega) (by omega)) (fun v2 ev2 => ?_)
  refine mcl_v (t_La_filter hn0 _ v1 v2 hG) (fun v3 S1 zS1 => ?_)
  obtain ⟨y1, y2, y3⟩ := zS1
  refine msl_v (nt_in (by omega) (by omega)) (fun v5 ev5 => ?_)
  have qv5 : v5 = v1 := ev5.trans ev1.symm
  clear ev5
  subst qv5
  refine msl_v (nt_in (by omega) (by omega)) (fun v6 ev6 => ?_)
  have qv6 : v6 = v2 := ev6.trans ev2.symm
  clear ev6
  subst qv6
  refine mis_t (hp_50 _) ?_
  by_cases o : okf v5 v6
  · by_cases c : f.toInt < 8
    · obtain ⟨e1, hG1, w1⟩ := y1 o c
      refine mcl_v (t_Mo_filter hn0 _ v5 v6 hG1) (fun v8 S9 z9 => ?_)
      obtain ⟨x1, x2, x3, lr⟩ := z9
      obtain ⟨e2, hG2, t2⟩ := x1 o c
      exact tot_end ⟨_, _, hG2⟩
    · obtain ⟨e1, hG1⟩ := y3 o c
      refine mcl_v (t_Mo_filter hn0 _ v5 v6 hG1) (fun v8 S9 z9 => ?_)
      obtain ⟨x1, x2, x3, lr⟩ := z9
      obtain ⟨hG2, t2⟩ := x3 o c
      exact tot_end ⟨_, _, hG2⟩
  · obtain ⟨e1, hG1⟩ := y2 o
    refine mcl_v (t_Mo_filter hn0 _ v5 v6 hG1) (fun v8 S9 z9 => ?_)
    obtain ⟨x1, x2, x3, lr⟩ := z9
    obtain ⟨hG2, t2⟩ := x2 o
    exact tot_end ⟨_, _, hG2⟩
set_option maxHeartbeats 2000000 in
theorem t_La_c4 {n0 : Nat} (hn0 : big n0) {xs : Nat → Int32} {L : Nat} (hL : L ≤ 3072) (S : mS) (x4 : Int32) (h0 : 0 ≤ x4.toInt) (h1 : x4.toInt + 6 ≤ L) (hI : Inv S) : tot (f_La_c4 n0 xs L (hp S) x4 66 50 0) (fun _ S' => Inv S') := by
  unfold f_La_c4
  obtain ⟨f, b, hG⟩ := hI
  have k1 : (x4 + 1 : Int32).toInt = x4.toInt + (1 : Int32).toInt := nt_add (by have : (1 : Int32).toInt = 1 := rfl; omega) (by have : (1 : Int32).toInt = 1 := rfl; omega)
  rw [show (1 : Int32).toInt = 1 from rfl] at k1
  have k2 : (x4 + 2 : Int32).toInt = x4.toInt + (2 : Int32).toInt := nt_add (by have : (2 : Int32).toInt = 2 := rfl; omega) (by have : (2 : Int32).toInt = 2 := rfl; omega)
  rw [show (2 : Int32).toInt = 2 from rfl] at k2
  have k3 : (x4 + 3 : Int32).toInt = x4.toInt + (3 : Int32).toInt := nt_add (by have : (3 : Int32).toInt = 3 := rfl; omega) (by have : (3 : Int32).toInt = 3 := rfl; omega)
  rw [show (3 : Int32).toInt = 3 from rfl] at k3
  have k4 : (x4 + 4 : Int32).toInt = x4.toInt + (4 : Int32).toInt := nt_add (by have : (4 : Int32).toInt = 4 := rfl; omega) (by have : (4 : Int32).toInt = 4 := rfl; omega)
  rw [show (4 : Int32).toInt = 4 from rfl] at k4
  refine msl_v (nt_in (by omega) (by omega)) (fun v1 ev1 => ?_)
  refine msl_v (nt_in (by omega) (by omega)) (fun v2 ev2 => ?_)
  refine msl_v (nt_in (by omega) (by omega)) (fun v3 ev3 => ?_)
  refine msl_v (nt_in (by omega) (by omega)) (fun v4 ev4 => ?_)
  refine mcl_v (t_La_predict hn0 _ v1 v2 v3 v4 hG) (fun v5 S1 zS1 => ?_)
  obtain ⟨hGS1, aS1, bS1, cS1⟩ := zS1
  refine msl_v (nt_in (by omega) (by omega)) (fun v7 ev7 => ?_)
  have qv7 : v7 = v1 := ev7.trans ev1.symm
  clear ev7
  subst qv7
  refine msl_v (nt_in (by omega) (by omega)) (fun v8 ev8 => ?_)
  have qv8 : v8 = v2 := ev8.trans ev2.symm
  clear ev8
  subst qv8
  refine msl_v (nt_in (by omega) (by omega)) (fun v9 ev9 => ?_)
  have qv9 : v9 = v3 := ev9.trans ev3.symm
  clear ev9
  subst qv9
  refine msl_v (nt_in (by omega) (by omega)) (fun v10 ev10 => ?_)
  have qv10 : v10 = v4 := ev10.trans ev4.symm
  clear ev10
  subst qv10
  refine mis_t (hp_50 _) ?_
  refine mcl_v (t_Mo_predict hn0 _ v7 v8 v9 v10 hGS1) (fun u2 S2 zS2 => ?_)
  obtain ⟨hGS2, aS2, bS2, cS2⟩ := zS2
  exact tot_end ⟨_, _, hGS2⟩
set_option maxHeartbeats 2000000 in
theorem t_La_c5 {n0 : Nat} (hn0 : big n0) {xs : Nat → Int32} {L : Nat} (hL : L ≤ 3072) (S : mS) (x4 : Int32) (h0 : 0 ≤ x4.toInt) (h1 : x4.toInt + 6 ≤ L) (hI : Inv S) : tot (f_La_c5 n0 xs L (hp S) x4 66 50 0) (fun _ S' => Inv S') := by
  unfold f_La_c5
  obtain ⟨f, b, hG⟩ := hI
  refine mis_t (hp_0 _) ?_
  refine mcl_v (t_SF_drop _ hG) (fun v2 S1 zS1 => ?_)
  obtain ⟨ev2, hGS1⟩ := zS1
  refine mis_t (hp_50 _) ?_
  refine mcl_v (t_Mo_drop _ hGS1) (fun v5 S2 zS2 => ?_)
  obtain ⟨ev5, hGS2⟩ := zS2
  exact tot_end ⟨_, _, hGS2⟩
set_option maxHeartbeats 2000000 in
theorem t_La_c6 {n0 : Nat} (hn0 : big n0) {xs : Nat → Int32} {L : Nat} (hL : L ≤ 3072) (S : mS) (x4 : Int32) (h0 : 0 ≤ x4.toInt) (h1 : x4.toInt + 6 ≤ L) (hI : Inv S) : tot (f_La_c6 n0 xs L (hp S) x4 66 50 0) (fun _ S' => Inv S') := by
  unfold f_La_c6
  obtain ⟨f, b, hG⟩ := hI
  have k1 : (x4 + 1 : Int32).toInt = x4.toInt + (1 : Int32).toInt := nt_add (by have : (1 : Int32).toInt = 1 := rfl; omega) (by have : (1 : Int32).toInt = 1 := rfl; omega)
  rw [show (1 : Int32).toInt = 1 from rfl] at k1
  refine msl_v (nt_in (by omega) (by omega)) (fun v1 ev1 => ?_)
  refine mcl_v (t_La_budget hn0 _ v1 hG) (fun v2 S1 zS1 => ?_)
  obtain ⟨y1, y2⟩ := zS1
  refine msl_v (nt_in (by omega) (by omega)) (fun v4 ev4 => ?_)
  have qv4 : v4 = v1 := ev4.trans ev1.symm
  clear ev4
  subst qv4
  refine mis_t (hp_50 _) ?_
  by_cases o : okb v4
  · obtain ⟨e1, hG1, w1⟩ := y1 o
    refine mcl_v (t_Mo_budget hn0 _ v4 hG1) (fun v6 S9 z9 => ?_)
    obtain ⟨x1, x2, lr⟩ := z9
    obtain ⟨e2, hG2, t2⟩ := x1 o
    refine mis_t (hp_50 _) ?_
    refine mcl_v (t_Mo_thrown S9) (fun v9 S10 y10 => ?_)
    obtain ⟨e10, e11⟩ := y10
    subst e10
    rw [if_pos (show v9 = v2 by rw [e11, t2, e1])]
    rw [if_pos e1]
    refine mal_v (hp_66 _) (nt_in (by decide) (by decide)) (fun w13 ew => ?_)
    have ew2 : w13 = v6.toInt64 := by
      rw [ew, lr, e2]
      exact w1
    rw [if_pos (show lg_cmp w13 (v6.toInt64) = 0 by rw [ew2]; exact lg_self _)]
    exact tot_end ⟨_, _, hG2⟩
  · obtain ⟨e1, hG1⟩ := y2 o
    refine mcl_v (t_Mo_budget hn0 _ v4 hG1) (fun v6 S9 z9 => ?_)
    obtain ⟨x1, x2, lr⟩ := z9
    obtain ⟨hG2, t2⟩ := x2 o
    refine mis_t (hp_50 _) ?_
    refine mcl_v (t_Mo_thrown S9) (fun v9 S10 y10 => ?_)
    obtain ⟨e10, e11⟩ := y10
    subst e10
    rw [if_pos (show v9 = v2 by rw [e11, t2, e1])]
    rw [if_neg (show ¬ v2 = 0 by rw [e1]; decide)]
    exact tot_end ⟨_, _, hG2⟩
set_option maxHeartbeats 2000000 in
theorem t_La_c7 {n0 : Nat} (hn0 : big n0) {xs : Nat → Int32} {L : Nat} (hL : L ≤ 3072) (S : mS) (x4 : Int32) (h0 : 0 ≤ x4.toInt) (h1 : x4.toInt + 6 ≤ L) (hI : Inv S) : tot (f_La_c7 n0 xs L (hp S) x4 66 50 0) (fun _ S' => Inv S') := by
  unfold f_La_c7
  obtain ⟨f, b, hG⟩ := hI
  refine mis_t (hp_0 _) ?_
  refine mcl_v (t_SF_decode hn0 _  hG) (fun v2 S1 hGS1 => ?_)
  refine mis_t (hp_50 _) ?_
  refine mcl_v (t_Mo_decode hn0 _  hGS1) (fun v5 S2 hGS2 => ?_)
  exact tot_end ⟨_, _, hGS2⟩
set_option maxHeartbeats 2000000 in
theorem t_La_c8 {n0 : Nat} (hn0 : big n0) {xs : Nat → Int32} {L : Nat} (hL : L ≤ 3072) (S : mS) (x4 : Int32) (h0 : 0 ≤ x4.toInt) (h1 : x4.toInt + 6 ≤ L) (hI : Inv S) : tot (f_La_c8 n0 xs L (hp S) x4 66 50 0) (fun _ S' => Inv S') := by
  unfold f_La_c8
  obtain ⟨f, b, hG⟩ := hI
  have k1 : (x4 + 1 : Int32).toInt = x4.toInt + (1 : Int32).toInt := nt_add (by have : (1 : Int32).toInt = 1 := rfl; omega) (by have : (1 : Int32).toInt = 1 := rfl; omega)
  rw [show (1 : Int32).toInt = 1 from rfl] at k1
  refine msl_v (nt_in (by omega) (by omega)) (fun v1 ev1 => ?_)
  refine mis_t (hp_0 _) ?_
  refine mcl_v (t_SF_at hn0 _ v1 hG) (fun v3 S1 hGS1 => ?_)
  refine msl_v (nt_in (by omega) (by omega)) (fun v5 ev5 => ?_)
  have qv5 : v5 = v1 := ev5.trans ev1.symm
  clear ev5
  subst qv5
  refine mis_t (hp_50 _) ?_
  refine mcl_v (t_Mo_at hn0 _ v5 hGS1) (fun v7 S2 hGS2 => ?_)
  exact tot_end ⟨_, _, hGS2⟩
set_option maxHeartbeats 2000000 in
theorem t_La_c9 {n0 : Nat} (hn0 : big n0) {xs : Nat → Int32} {L : Nat} (hL : L ≤ 3072) (S : mS) (x4 : Int32) (h0 : 0 ≤ x4.toInt) (h1 : x4.toInt + 6 ≤ L) (hI : Inv S) : tot (f_La_c9 n0 xs L (hp S) x4 66 50 0) (fun _ S' => Inv S') := by
  unfold f_La_c9
  obtain ⟨f, b, hG⟩ := hI
  have k1 : (x4 + 1 : Int32).toInt = x4.toInt + (1 : Int32).toInt := nt_add (by have : (1 : Int32).toInt = 1 := rfl; omega) (by have : (1 : Int32).toInt = 1 := rfl; omega)
  rw [show (1 : Int32).toInt = 1 from rfl] at k1
  refine msl_v (nt_in (by omega) (by omega)) (fun v1 ev1 => ?_)
  refine mis_t (hp_0 _) ?_
  refine mcl_v (t_SF_fault hn0 _ v1 hG) (fun v3 S1 hGS1 => ?_)
  refine msl_v (nt_in (by omega) (by omega)) (fun v5 ev5 => ?_)
  have qv5 : v5 = v1 := ev5.trans ev1.symm
  clear ev5
  subst qv5
  refine mis_t (hp_50 _) ?_
  refine mcl_v (t_Mo_fault hn0 _ v5 hGS1) (fun v7 S2 hGS2 => ?_)
  exact tot_end ⟨_, _, hGS2⟩
set_option maxHeartbeats 2000000 in
theorem t_La_c10 {n0 : Nat} (hn0 : big n0) {xs : Nat → Int32} {L : Nat} (hL : L ≤ 3072) (S : mS) (x4 : Int32) (h0 : 0 ≤ x4.toInt) (h1 : x4.toInt + 6 ≤ L) (hI : Inv S) : tot (f_La_c10 n0 xs L (hp S) x4 66 50 0) (fun _ S' => Inv S') := by
  unfold f_La_c10
  obtain ⟨f, b, hG⟩ := hI
  refine mcl_v (t_La_keep hn0 _  hG) (fun v1 S1 hGS1 => ?_)
  refine mis_t (hp_50 _) ?_
  refine mcl_v (t_Mo_keep hn0 _  hGS1) (fun v4 S2 hGS2 => ?_)
  exact tot_end ⟨_, _, hGS2⟩
theorem t_La_step {n0 : Nat} (hn0 : big n0) {xs : Nat → Int32} {L : Nat} (hL : L ≤ 3072) (S : mS) (x4 : Int32) (h0 : 0 ≤ x4.toInt) (h1 : x4.toInt + 6 ≤ L) (hI : Inv S) : tot (f_La_step n0 xs L (hp S) x4 66 50 0) (fun _ S' => Inv S') := by
  unfold f_La_step
  refine msl_v (nt_in (by omega) (by omega)) (fun v1 ev1 => ?_)
  refine mnm_v (fun v2 ev2 => ?_)
  exact ilq_t (t_La_c0 hn0 hL S x4 h0 h1 hI) (ilq_t (t_La_c1 hn0 hL S x4 h0 h1 hI) (ilq_t (t_La_c2 hn0 hL S x4 h0 h1 hI) (ilq_t (t_La_c3 hn0 hL S x4 h0 h1 hI) (ilq_t (t_La_c4 hn0 hL S x4 h0 h1 hI) (ilq_t (t_La_c5 hn0 hL S x4 h0 h1 hI) (ilq_t (t_La_c6 hn0 hL S x4 h0 h1 hI) (ilq_t (t_La_c7 hn0 hL S x4 h0 h1 hI) (ilq_t (t_La_c8 hn0 hL S x4 h0 h1 hI) (ilq_t (t_La_c9 hn0 hL S x4 h0 h1 hI) (ilq_t (t_La_c10 hn0 hL S x4 h0 h1 hI) (tot_end hI)))))))))))
