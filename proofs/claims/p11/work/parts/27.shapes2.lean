def P2_C (cy : Nat → ClassId) (ad : Nat → Nat) (ka kb kc : Nat) (x : va_E) : Prop := ∃ (sta : Nat) (cc : Nat) (ct : Nat) (un : Int32) (ow : Int32) (hn : Nat), x = .inr (0, [.ref (ad 1), .ref (ad 71), .ref (ad 72), .ref (ad 73), .ref (ad ka), .ref (ad kb), .ref (ad kc), .int (nI sta), .int (nI cc), .int (nI ct), .int un, .int ow, .int (nI hn)]) ∧ (sta ≤ 2) ∧ (cc ≤ 9) ∧ (ct ≤ 2000) ∧ (hn ≤ 1)
def P2_ea (cy : Nat → ClassId) (ad : Nat → Nat) (ka kb kc : Nat) (x : va_E) : Prop := ∃ (f : Nat → Int64), x = .inl (cy 1, 18000, .inr (.inl f))
def P2_eb (cy : Nat → ClassId) (ad : Nat → Nat) (ka kb kc : Nat) (x : va_E) : Prop := ∃ (f : Nat → Int32), x = .inl (cy 0, 2000, .inl f)
def P2_ec (cy : Nat → ClassId) (ad : Nat → Nat) (ka kb kc : Nat) (x : va_E) : Prop := ∃ (f : Nat → Int32), x = .inl (cy 0, 4096, .inl f) ∧ (∀ i, i < 4096 → ∃ v, v < 2001 ∧ f i = nI v)
def KK (cs : List Nat) (ka kb kc : Nat) : Prop := ka ∈ cs ∧ kb ∈ cs ∧ kc ∈ cs ∧ 115 ≤ ka ∧ ka < kb ∧ kb < kc
def PC (cy : Nat → ClassId) (ad : Nat → Nat) (ka kb kc : Nat) (en : Nat → va_E) : Prop := P2_C cy ad ka kb kc (en 70) ∧ P2_ea cy ad ka kb kc (en ka) ∧ P2_eb cy ad ka kb kc (en kb) ∧ P2_ec cy ad ka kb kc (en kc)
def SC (cy : Nat → ClassId) (cs : List Nat) (ad : Nat → Nat) (ka kb kc : Nat) (en : Nat → va_E) : Prop := SX cy cs ad en ∧ KK cs ka kb kc ∧ PC cy ad ka kb kc en
theorem PC_up {cy : Nat → ClassId} {cs : List Nat} {ad : Nat → Nat} {ka kb kc : Nat} {en : Nat → va_E} {c : Nat} {x : va_E} (h : SC cy cs ad ka kb kc en) (h1 : c ≠ 70) (h2 : c < 115) : PC cy ad ka kb kc (va_up en c x) := by
  obtain ⟨-, ⟨-, -, -, k1, k2, k3⟩, p1, p2, p3, p4⟩ := h
  refine ⟨?_, ?_, ?_, ?_⟩
  · rw [va_up_ne _ _ (by omega)]; exact p1
  · rw [va_up_ne _ _ (by omega)]; exact p2
  · rw [va_up_ne _ _ (by omega)]; exact p3
  · rw [va_up_ne _ _ (by omega)]; exact p4
theorem get2_A {cy : Nat → ClassId} {cs : List Nat} {ad : Nat → Nat} {ka kb kc : Nat} {en : Nat → va_E} (h : SC cy cs ad ka kb kc en) : P_A cy ad 0 (en (0)) := get_A h.1 
theorem up2_A {cy : Nat → ClassId} {cs : List Nat} {ad : Nat → Nat} {ka kb kc : Nat} {en : Nat → va_E} {x : va_E} (h : SC cy cs ad ka kb kc en) (hp : P_A cy ad 0 x) : SC cy cs ad ka kb kc (va_up en (0) x) := ⟨up_A h.1  hp, h.2.1, PC_up h (by omega) (by omega)⟩
theorem get2_T {cy : Nat → ClassId} {cs : List Nat} {ad : Nat → Nat} {ka kb kc : Nat} {en : Nat → va_E} (h : SC cy cs ad ka kb kc en) : P_T cy ad 0 (en (1)) := get_T h.1 
theorem up2_T {cy : Nat → ClassId} {cs : List Nat} {ad : Nat → Nat} {ka kb kc : Nat} {en : Nat → va_E} {x : va_E} (h : SC cy cs ad ka kb kc en) (hp : P_T cy ad 0 x) : SC cy cs ad ka kb kc (va_up en (1) x) := ⟨up_T h.1  hp, h.2.1, PC_up h (by omega) (by omega)⟩
theorem get2_all {cy : Nat → ClassId} {cs : List Nat} {ad : Nat → Nat} {ka kb kc : Nat} {en : Nat → va_E} (h : SC cy cs ad ka kb kc en) : P_all cy ad 0 (en (2)) := get_all h.1 
theorem up2_all {cy : Nat → ClassId} {cs : List Nat} {ad : Nat → Nat} {ka kb kc : Nat} {en : Nat → va_E} {x : va_E} (h : SC cy cs ad ka kb kc en) (hp : P_all cy ad 0 x) : SC cy cs ad ka kb kc (va_up en (2) x) := ⟨up_all h.1  hp, h.2.1, PC_up h (by omega) (by omega)⟩
theorem get2_rows {cy : Nat → ClassId} {cs : List Nat} {ad : Nat → Nat} {ka kb kc : Nat} {en : Nat → va_E} (h : SC cy cs ad ka kb kc en) : P_rows cy ad 0 (en (3)) := get_rows h.1 
theorem up2_rows {cy : Nat → ClassId} {cs : List Nat} {ad : Nat → Nat} {ka kb kc : Nat} {en : Nat → va_E} {x : va_E} (h : SC cy cs ad ka kb kc en) (hp : P_rows cy ad 0 x) : SC cy cs ad ka kb kc (va_up en (3) x) := ⟨up_rows h.1  hp, h.2.1, PC_up h (by omega) (by omega)⟩
theorem get2_row {cy : Nat → ClassId} {cs : List Nat} {ad : Nat → Nat} {ka kb kc : Nat} {en : Nat → va_E} (h : SC cy cs ad ka kb kc en) {j : Nat} (hj : j < 6) : P_row cy ad j (en (4 + j)) := get_row h.1 hj
theorem up2_row {cy : Nat → ClassId} {cs : List Nat} {ad : Nat → Nat} {ka kb kc : Nat} {en : Nat → va_E} {x : va_E} (h : SC cy cs ad ka kb kc en) {j : Nat} (hj : j < 6) (hp : P_row cy ad j x) : SC cy cs ad ka kb kc (va_up en (4 + j) x) := ⟨up_row h.1 hj hp, h.2.1, PC_up h (by omega) (by omega)⟩
theorem get2_alw {cy : Nat → ClassId} {cs : List Nat} {ad : Nat → Nat} {ka kb kc : Nat} {en : Nat → va_E} (h : SC cy cs ad ka kb kc en) : P_alw cy ad 0 (en (10)) := get_alw h.1 
theorem up2_alw {cy : Nat → ClassId} {cs : List Nat} {ad : Nat → Nat} {ka kb kc : Nat} {en : Nat → va_E} {x : va_E} (h : SC cy cs ad ka kb kc en) (hp : P_alw cy ad 0 x) : SC cy cs ad ka kb kc (va_up en (10) x) := ⟨up_alw h.1  hp, h.2.1, PC_up h (by omega) (by omega)⟩
theorem get2_scr {cy : Nat → ClassId} {cs : List Nat} {ad : Nat → Nat} {ka kb kc : Nat} {en : Nat → va_E} (h : SC cy cs ad ka kb kc en) : P_scr cy ad 0 (en (11)) := get_scr h.1 
theorem up2_scr {cy : Nat → ClassId} {cs : List Nat} {ad : Nat → Nat} {ka kb kc : Nat} {en : Nat → va_E} {x : va_E} (h : SC cy cs ad ka kb kc en) (hp : P_scr cy ad 0 x) : SC cy cs ad ka kb kc (va_up en (11) x) := ⟨up_scr h.1  hp, h.2.1, PC_up h (by omega) (by omega)⟩
theorem get2_L {cy : Nat → ClassId} {cs : List Nat} {ad : Nat → Nat} {ka kb kc : Nat} {en : Nat → va_E} (h : SC cy cs ad ka kb kc en) : P_L cy ad 0 (en (12)) := get_L h.1 
theorem up2_L {cy : Nat → ClassId} {cs : List Nat} {ad : Nat → Nat} {ka kb kc : Nat} {en : Nat → va_E} {x : va_E} (h : SC cy cs ad ka kb kc en) (hp : P_L cy ad 0 x) : SC cy cs ad ka kb kc (va_up en (12) x) := ⟨up_L h.1  hp, h.2.1, PC_up h (by omega) (by omega)⟩
theorem get2_svs {cy : Nat → ClassId} {cs : List Nat} {ad : Nat → Nat} {ka kb kc : Nat} {en : Nat → va_E} (h : SC cy cs ad ka kb kc en) : P_svs cy ad 0 (en (13)) := get_svs h.1 
theorem up2_svs {cy : Nat → ClassId} {cs : List Nat} {ad : Nat → Nat} {ka kb kc : Nat} {en : Nat → va_E} {x : va_E} (h : SC cy cs ad ka kb kc en) (hp : P_svs cy ad 0 x) : SC cy cs ad ka kb kc (va_up en (13) x) := ⟨up_svs h.1  hp, h.2.1, PC_up h (by omega) (by omega)⟩
theorem get2_wys {cy : Nat → ClassId} {cs : List Nat} {ad : Nat → Nat} {ka kb kc : Nat} {en : Nat → va_E} (h : SC cy cs ad ka kb kc en) : P_wys cy ad 0 (en (14)) := get_wys h.1 
theorem up2_wys {cy : Nat → ClassId} {cs : List Nat} {ad : Nat → Nat} {ka kb kc : Nat} {en : Nat → va_E} {x : va_E} (h : SC cy cs ad ka kb kc en) (hp : P_wys cy ad 0 x) : SC cy cs ad ka kb kc (va_up en (14) x) := ⟨up_wys h.1  hp, h.2.1, PC_up h (by omega) (by omega)⟩
theorem get2_way {cy : Nat → ClassId} {cs : List Nat} {ad : Nat → Nat} {ka kb kc : Nat} {en : Nat → va_E} (h : SC cy cs ad ka kb kc en) {j : Nat} (hj : j < 9) : P_way cy ad j (en (15 + j)) := get_way h.1 hj
theorem up2_way {cy : Nat → ClassId} {cs : List Nat} {ad : Nat → Nat} {ka kb kc : Nat} {en : Nat → va_E} {x : va_E} (h : SC cy cs ad ka kb kc en) {j : Nat} (hj : j < 9) (hp : P_way cy ad j x) : SC cy cs ad ka kb kc (va_up en (15 + j) x) := ⟨up_way h.1 hj hp, h.2.1, PC_up h (by omega) (by omega)⟩
theorem get2_pfs {cy : Nat → ClassId} {cs : List Nat} {ad : Nat → Nat} {ka kb kc : Nat} {en : Nat → va_E} (h : SC cy cs ad ka kb kc en) : P_pfs cy ad 0 (en (24)) := get_pfs h.1 
theorem up2_pfs {cy : Nat → ClassId} {cs : List Nat} {ad : Nat → Nat} {ka kb kc : Nat} {en : Nat → va_E} {x : va_E} (h : SC cy cs ad ka kb kc en) (hp : P_pfs cy ad 0 x) : SC cy cs ad ka kb kc (va_up en (24) x) := ⟨up_pfs h.1  hp, h.2.1, PC_up h (by omega) (by omega)⟩
theorem get2_pfx {cy : Nat → ClassId} {cs : List Nat} {ad : Nat → Nat} {ka kb kc : Nat} {en : Nat → va_E} (h : SC cy cs ad ka kb kc en) {j : Nat} (hj : j < 8) : P_pfx cy ad j (en (25 + j)) := get_pfx h.1 hj
theorem up2_pfx {cy : Nat → ClassId} {cs : List Nat} {ad : Nat → Nat} {ka kb kc : Nat} {en : Nat → va_E} {x : va_E} (h : SC cy cs ad ka kb kc en) {j : Nat} (hj : j < 8) (hp : P_pfx cy ad j x) : SC cy cs ad ka kb kc (va_up en (25 + j) x) := ⟨up_pfx h.1 hj hp, h.2.1, PC_up h (by omega) (by omega)⟩
theorem get2_let {cy : Nat → ClassId} {cs : List Nat} {ad : Nat → Nat} {ka kb kc : Nat} {en : Nat → va_E} (h : SC cy cs ad ka kb kc en) : P_let cy ad 0 (en (33)) := get_let h.1 
theorem up2_let {cy : Nat → ClassId} {cs : List Nat} {ad : Nat → Nat} {ka kb kc : Nat} {en : Nat → va_E} {x : va_E} (h : SC cy cs ad ka kb kc en) (hp : P_let cy ad 0 x) : SC cy cs ad ka kb kc (va_up en (33) x) := ⟨up_let h.1  hp, h.2.1, PC_up h (by omega) (by omega)⟩
theorem get2_sv {cy : Nat → ClassId} {cs : List Nat} {ad : Nat → Nat} {ka kb kc : Nat} {en : Nat → va_E} (h : SC cy cs ad ka kb kc en) {j : Nat} (hj : j < 9) : P_sv cy ad j (en (34 + 4 * j)) := get_sv h.1 hj
theorem up2_sv {cy : Nat → ClassId} {cs : List Nat} {ad : Nat → Nat} {ka kb kc : Nat} {en : Nat → va_E} {x : va_E} (h : SC cy cs ad ka kb kc en) {j : Nat} (hj : j < 9) (hp : P_sv cy ad j x) : SC cy cs ad ka kb kc (va_up en (34 + 4 * j) x) := ⟨up_sv h.1 hj hp, h.2.1, PC_up h (by omega) (by omega)⟩
theorem get2_sva {cy : Nat → ClassId} {cs : List Nat} {ad : Nat → Nat} {ka kb kc : Nat} {en : Nat → va_E} (h : SC cy cs ad ka kb kc en) {j : Nat} (hj : j < 9) : P_sva cy ad j (en (35 + 4 * j)) := get_sva h.1 hj
theorem up2_sva {cy : Nat → ClassId} {cs : List Nat} {ad : Nat → Nat} {ka kb kc : Nat} {en : Nat → va_E} {x : va_E} (h : SC cy cs ad ka kb kc en) {j : Nat} (hj : j < 9) (hp : P_sva cy ad j x) : SC cy cs ad ka kb kc (va_up en (35 + 4 * j) x) := ⟨up_sva h.1 hj hp, h.2.1, PC_up h (by omega) (by omega)⟩
theorem get2_svb {cy : Nat → ClassId} {cs : List Nat} {ad : Nat → Nat} {ka kb kc : Nat} {en : Nat → va_E} (h : SC cy cs ad ka kb kc en) {j : Nat} (hj : j < 9) : P_svb cy ad j (en (36 + 4 * j)) := get_svb h.1 hj
theorem up2_svb {cy : Nat → ClassId} {cs : List Nat} {ad : Nat → Nat} {ka kb kc : Nat} {en : Nat → va_E} {x : va_E} (h : SC cy cs ad ka kb kc en) {j : Nat} (hj : j < 9) (hp : P_svb cy ad j x) : SC cy cs ad ka kb kc (va_up en (36 + 4 * j) x) := ⟨up_svb h.1 hj hp, h.2.1, PC_up h (by omega) (by omega)⟩
theorem get2_svc {cy : Nat → ClassId} {cs : List Nat} {ad : Nat → Nat} {ka kb kc : Nat} {en : Nat → va_E} (h : SC cy cs ad ka kb kc en) {j : Nat} (hj : j < 9) : P_svc cy ad j (en (37 + 4 * j)) := get_svc h.1 hj
theorem up2_svc {cy : Nat → ClassId} {cs : List Nat} {ad : Nat → Nat} {ka kb kc : Nat} {en : Nat → va_E} {x : va_E} (h : SC cy cs ad ka kb kc en) {j : Nat} (hj : j < 9) (hp : P_svc cy ad j x) : SC cy cs ad ka kb kc (va_up en (37 + 4 * j) x) := ⟨up_svc h.1 hj hp, h.2.1, PC_up h (by omega) (by omega)⟩
theorem get2_cl {cy : Nat → ClassId} {cs : List Nat} {ad : Nat → Nat} {ka kb kc : Nat} {en : Nat → va_E} (h : SC cy cs ad ka kb kc en) : P_cl cy ad 0 (en (71)) := get_cl h.1 
theorem up2_cl {cy : Nat → ClassId} {cs : List Nat} {ad : Nat → Nat} {ka kb kc : Nat} {en : Nat → va_E} {x : va_E} (h : SC cy cs ad ka kb kc en) (hp : P_cl cy ad 0 x) : SC cy cs ad ka kb kc (va_up en (71) x) := ⟨up_cl h.1  hp, h.2.1, PC_up h (by omega) (by omega)⟩
theorem get2_cr {cy : Nat → ClassId} {cs : List Nat} {ad : Nat → Nat} {ka kb kc : Nat} {en : Nat → va_E} (h : SC cy cs ad ka kb kc en) : P_cr cy ad 0 (en (72)) := get_cr h.1 
theorem up2_cr {cy : Nat → ClassId} {cs : List Nat} {ad : Nat → Nat} {ka kb kc : Nat} {en : Nat → va_E} {x : va_E} (h : SC cy cs ad ka kb kc en) (hp : P_cr cy ad 0 x) : SC cy cs ad ka kb kc (va_up en (72) x) := ⟨up_cr h.1  hp, h.2.1, PC_up h (by omega) (by omega)⟩
theorem get2_cd {cy : Nat → ClassId} {cs : List Nat} {ad : Nat → Nat} {ka kb kc : Nat} {en : Nat → va_E} (h : SC cy cs ad ka kb kc en) : P_cd cy ad 0 (en (73)) := get_cd h.1 
theorem up2_cd {cy : Nat → ClassId} {cs : List Nat} {ad : Nat → Nat} {ka kb kc : Nat} {en : Nat → va_E} {x : va_E} (h : SC cy cs ad ka kb kc en) (hp : P_cd cy ad 0 x) : SC cy cs ad ka kb kc (va_up en (73) x) := ⟨up_cd h.1  hp, h.2.1, PC_up h (by omega) (by omega)⟩
theorem get2_wos {cy : Nat → ClassId} {cs : List Nat} {ad : Nat → Nat} {ka kb kc : Nat} {en : Nat → va_E} (h : SC cy cs ad ka kb kc en) : P_wos cy ad 0 (en (74)) := get_wos h.1 
theorem up2_wos {cy : Nat → ClassId} {cs : List Nat} {ad : Nat → Nat} {ka kb kc : Nat} {en : Nat → va_E} {x : va_E} (h : SC cy cs ad ka kb kc en) (hp : P_wos cy ad 0 x) : SC cy cs ad ka kb kc (va_up en (74) x) := ⟨up_wos h.1  hp, h.2.1, PC_up h (by omega) (by omega)⟩
theorem get2_shs {cy : Nat → ClassId} {cs : List Nat} {ad : Nat → Nat} {ka kb kc : Nat} {en : Nat → va_E} (h : SC cy cs ad ka kb kc en) : P_shs cy ad 0 (en (75)) := get_shs h.1 
theorem up2_shs {cy : Nat → ClassId} {cs : List Nat} {ad : Nat → Nat} {ka kb kc : Nat} {en : Nat → va_E} {x : va_E} (h : SC cy cs ad ka kb kc en) (hp : P_shs cy ad 0 x) : SC cy cs ad ka kb kc (va_up en (75) x) := ⟨up_shs h.1  hp, h.2.1, PC_up h (by omega) (by omega)⟩
theorem get2_tr {cy : Nat → ClassId} {cs : List Nat} {ad : Nat → Nat} {ka kb kc : Nat} {en : Nat → va_E} (h : SC cy cs ad ka kb kc en) : P_tr cy ad 0 (en (76)) := get_tr h.1 
theorem up2_tr {cy : Nat → ClassId} {cs : List Nat} {ad : Nat → Nat} {ka kb kc : Nat} {en : Nat → va_E} {x : va_E} (h : SC cy cs ad ka kb kc en) (hp : P_tr cy ad 0 x) : SC cy cs ad ka kb kc (va_up en (76) x) := ⟨up_tr h.1  hp, h.2.1, PC_up h (by omega) (by omega)⟩
theorem get2_wo {cy : Nat → ClassId} {cs : List Nat} {ad : Nat → Nat} {ka kb kc : Nat} {en : Nat → va_E} (h : SC cy cs ad ka kb kc en) {j : Nat} (hj : j < 10) : P_wo cy ad j (en (77 + 3 * j)) := get_wo h.1 hj
theorem up2_wo {cy : Nat → ClassId} {cs : List Nat} {ad : Nat → Nat} {ka kb kc : Nat} {en : Nat → va_E} {x : va_E} (h : SC cy cs ad ka kb kc en) {j : Nat} (hj : j < 10) (hp : P_wo cy ad j x) : SC cy cs ad ka kb kc (va_up en (77 + 3 * j) x) := ⟨up_wo h.1 hj hp, h.2.1, PC_up h (by omega) (by omega)⟩
theorem get2_wol {cy : Nat → ClassId} {cs : List Nat} {ad : Nat → Nat} {ka kb kc : Nat} {en : Nat → va_E} (h : SC cy cs ad ka kb kc en) {j : Nat} (hj : j < 10) : P_wol cy ad j (en (78 + 3 * j)) := get_wol h.1 hj
theorem up2_wol {cy : Nat → ClassId} {cs : List Nat} {ad : Nat → Nat} {ka kb kc : Nat} {en : Nat → va_E} {x : va_E} (h : SC cy cs ad ka kb kc en) {j : Nat} (hj : j < 10) (hp : P_wol cy ad j x) : SC cy cs ad ka kb kc (va_up en (78 + 3 * j) x) := ⟨up_wol h.1 hj hp, h.2.1, PC_up h (by omega) (by omega)⟩
theorem get2_wor {cy : Nat → ClassId} {cs : List Nat} {ad : Nat → Nat} {ka kb kc : Nat} {en : Nat → va_E} (h : SC cy cs ad ka kb kc en) {j : Nat} (hj : j < 10) : P_wor cy ad j (en (79 + 3 * j)) := get_wor h.1 hj
theorem up2_wor {cy : Nat → ClassId} {cs : List Nat} {ad : Nat → Nat} {ka kb kc : Nat} {en : Nat → va_E} {x : va_E} (h : SC cy cs ad ka kb kc en) {j : Nat} (hj : j < 10) (hp : P_wor cy ad j x) : SC cy cs ad ka kb kc (va_up en (79 + 3 * j) x) := ⟨up_wor h.1 hj hp, h.2.1, PC_up h (by omega) (by omega)⟩
theorem get2_sh {cy : Nat → ClassId} {cs : List Nat} {ad : Nat → Nat} {ka kb kc : Nat} {en : Nat → va_E} (h : SC cy cs ad ka kb kc en) {j : Nat} (hj : j < 4) : P_sh cy ad j (en (107 + 2 * j)) := get_sh h.1 hj
theorem up2_sh {cy : Nat → ClassId} {cs : List Nat} {ad : Nat → Nat} {ka kb kc : Nat} {en : Nat → va_E} {x : va_E} (h : SC cy cs ad ka kb kc en) {j : Nat} (hj : j < 4) (hp : P_sh cy ad j x) : SC cy cs ad ka kb kc (va_up en (107 + 2 * j) x) := ⟨up_sh h.1 hj hp, h.2.1, PC_up h (by omega) (by omega)⟩
theorem get2_shc {cy : Nat → ClassId} {cs : List Nat} {ad : Nat → Nat} {ka kb kc : Nat} {en : Nat → va_E} (h : SC cy cs ad ka kb kc en) {j : Nat} (hj : j < 4) : P_shc cy ad j (en (108 + 2 * j)) := get_shc h.1 hj
theorem up2_shc {cy : Nat → ClassId} {cs : List Nat} {ad : Nat → Nat} {ka kb kc : Nat} {en : Nat → va_E} {x : va_E} (h : SC cy cs ad ka kb kc en) {j : Nat} (hj : j < 4) (hp : P_shc cy ad j x) : SC cy cs ad ka kb kc (va_up en (108 + 2 * j) x) := ⟨up_shc h.1 hj hp, h.2.1, PC_up h (by omega) (by omega)⟩
theorem get2_C {cy : Nat → ClassId} {cs : List Nat} {ad : Nat → Nat} {ka kb kc : Nat} {en : Nat → va_E} (h : SC cy cs ad ka kb kc en) : P2_C cy ad ka kb kc (en 70) := h.2.2.1
theorem get2_ea {cy : Nat → ClassId} {cs : List Nat} {ad : Nat → Nat} {ka kb kc : Nat} {en : Nat → va_E} (h : SC cy cs ad ka kb kc en) : P2_ea cy ad ka kb kc (en ka) := h.2.2.2.1
theorem get2_eb {cy : Nat → ClassId} {cs : List Nat} {ad : Nat → Nat} {ka kb kc : Nat} {en : Nat → va_E} (h : SC cy cs ad ka kb kc en) : P2_eb cy ad ka kb kc (en kb) := h.2.2.2.2.1
theorem get2_ec {cy : Nat → ClassId} {cs : List Nat} {ad : Nat → Nat} {ka kb kc : Nat} {en : Nat → va_E} (h : SC cy cs ad ka kb kc en) : P2_ec cy ad ka kb kc (en kc) := h.2.2.2.2.2
theorem up2_C {cy : Nat → ClassId} {cs : List Nat} {ad : Nat → Nat} {ka kb kc : Nat} {en : Nat → va_E} {x : va_E} (h : SC cy cs ad ka kb kc en) (hp : P2_C cy ad ka kb kc x) : SC cy cs ad ka kb kc (va_up en 70 x) := by
  have h9 := h
  obtain ⟨h1, hk, p1, p2, p3, p4⟩ := h
  obtain ⟨-, -, -, k1, k2, k3⟩ := id hk
  refine ⟨up_C h1 ?_, hk, ?_, ?_, ?_, ?_⟩
  · obtain ⟨sta, cc, ct, un, ow, hn, e, -⟩ := hp
    exact ⟨some (ad ka), some (ad kb), some (ad kc), nI sta, nI cc, nI ct, un, ow, nI hn, e⟩
  · rw [va_up_self]; exact hp
  · rw [va_up_ne _ _ (by omega)]; exact p2
  · rw [va_up_ne _ _ (by omega)]; exact p3
  · rw [va_up_ne _ _ (by omega)]; exact p4
theorem up2_ea {cy : Nat → ClassId} {cs : List Nat} {ad : Nat → Nat} {ka kb kc : Nat} {en : Nat → va_E} {x : va_E} (h : SC cy cs ad ka kb kc en) (hp : P2_ea cy ad ka kb kc x) : SC cy cs ad ka kb kc (va_up en ka x) := by
  obtain ⟨h1, hk, p1, p2, p3, p4⟩ := h
  obtain ⟨-, -, -, k1, k2, k3⟩ := id hk
  refine ⟨SX_pt h1 (fun c => c = ka) (fun c hc => va_up_ne _ _ hc) (fun c hc h9 => absurd h9 (by omega)), hk, ?_, ?_, ?_, ?_⟩
  · rw [va_up_ne _ _ (by omega)]; exact p1
  · rw [va_up_self]; exact hp
  · rw [va_up_ne _ _ (by omega)]; exact p3
  · rw [va_up_ne _ _ (by omega)]; exact p4
theorem up2_eb {cy : Nat → ClassId} {cs : List Nat} {ad : Nat → Nat} {ka kb kc : Nat} {en : Nat → va_E} {x : va_E} (h : SC cy cs ad ka kb kc en) (hp : P2_eb cy ad ka kb kc x) : SC cy cs ad ka kb kc (va_up en kb x) := by
  obtain ⟨h1, hk, p1, p2, p3, p4⟩ := h
  obtain ⟨-, -, -, k1, k2, k3⟩ := id hk
  refine ⟨SX_pt h1 (fun c => c = kb) (fun c hc => va_up_ne _ _ hc) (fun c hc h9 => absurd h9 (by omega)), hk, ?_, ?_, ?_, ?_⟩
  · rw [va_up_ne _ _ (by omega)]; exact p1
  · rw [va_up_ne _ _ (by omega)]; exact p2
  · rw [va_up_self]; exact hp
  · rw [va_up_ne _ _ (by omega)]; exact p4
theorem up2_ec {cy : Nat → ClassId} {cs : List Nat} {ad : Nat → Nat} {ka kb kc : Nat} {en : Nat → va_E} {x : va_E} (h : SC cy cs ad ka kb kc en) (hp : P2_ec cy ad ka kb kc x) : SC cy cs ad ka kb kc (va_up en kc x) := by
  obtain ⟨h1, hk, p1, p2, p3, p4⟩ := h
  obtain ⟨-, -, -, k1, k2, k3⟩ := id hk
  refine ⟨SX_pt h1 (fun c => c = kc) (fun c hc => va_up_ne _ _ hc) (fun c hc h9 => absurd h9 (by omega)), hk, ?_, ?_, ?_, ?_⟩
  · rw [va_up_ne _ _ (by omega)]; exact p1
  · rw [va_up_ne _ _ (by omega)]; exact p2
  · rw [va_up_ne _ _ (by omega)]; exact p3
  · rw [va_up_self]; exact hp
