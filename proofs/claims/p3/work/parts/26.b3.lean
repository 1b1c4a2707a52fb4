set_option maxRecDepth 100000 in
theorem z_m237 : z_mPr 0 237 3 9 := ⟨⟨1629, rfl⟩, ⟨181, rfl⟩, z_g9, by decide, Or.inl ⟨rfl, ⟨1628, rfl⟩, ⟨2, rfl, z_d8⟩, _, _, _, 101, rfl, rfl⟩⟩
set_option maxRecDepth 100000 in
theorem z_m238 : z_mPr 0 238 2 10 := ⟨⟨1633, rfl⟩, ⟨182, rfl⟩, z_g10, by decide, Or.inl ⟨rfl, ⟨1631, rfl⟩, ⟨1, rfl, z_d5⟩, _, _, _, 1632, rfl, rfl⟩⟩
set_option maxRecDepth 100000 in
theorem z_m239 : z_mPr 0 239 5 9 := ⟨⟨1637, rfl⟩, ⟨181, rfl⟩, z_g9, by decide, Or.inl ⟨rfl, ⟨1636, rfl⟩, ⟨4, rfl, z_d14⟩, _, _, _, 102, rfl, rfl⟩⟩
set_option maxRecDepth 100000 in
theorem z_m240 : z_mPr 0 240 4 9 := ⟨⟨1641, rfl⟩, ⟨181, rfl⟩, z_g9, by decide, Or.inl ⟨rfl, ⟨1640, rfl⟩, ⟨3, rfl, z_d11⟩, _, _, _, 103, rfl, rfl⟩⟩
set_option maxRecDepth 100000 in
theorem z_m241 : z_mPr 0 241 2 9 := ⟨⟨1645, rfl⟩, ⟨181, rfl⟩, z_g9, by decide, Or.inl ⟨rfl, ⟨1644, rfl⟩, ⟨1, rfl, z_d6⟩, _, _, _, 104, rfl, rfl⟩⟩
set_option maxRecDepth 100000 in
theorem z_m242 : z_mPr 0 242 2 9 := ⟨⟨1649, rfl⟩, ⟨181, rfl⟩, z_g9, by decide, Or.inl ⟨rfl, ⟨1648, rfl⟩, ⟨1, rfl, z_d27⟩, _, _, _, 105, rfl, rfl⟩⟩
set_option maxRecDepth 100000 in
theorem z_m243 : z_mPr 0 243 1 9 := ⟨⟨1653, rfl⟩, ⟨181, rfl⟩, z_g9, by decide, Or.inl ⟨rfl, ⟨1652, rfl⟩, ⟨0, rfl, z_d1⟩, _, _, _, 106, rfl, rfl⟩⟩
set_option maxRecDepth 100000 in
theorem z_m244 : z_mPr 0 244 2 9 := ⟨⟨1657, rfl⟩, ⟨181, rfl⟩, z_g9, by decide, Or.inl ⟨rfl, ⟨1656, rfl⟩, ⟨1, rfl, z_d6⟩, _, _, _, 107, rfl, rfl⟩⟩
set_option maxRecDepth 100000 in
theorem z_m245 : z_mPr 0 245 1 9 := ⟨⟨1661, rfl⟩, ⟨181, rfl⟩, z_g9, by decide, Or.inl ⟨rfl, ⟨1660, rfl⟩, ⟨0, rfl, z_d1⟩, _, _, _, 108, rfl, rfl⟩⟩
set_option maxRecDepth 100000 in
theorem z_m246 : z_mPr 0 246 1 9 := ⟨⟨1665, rfl⟩, ⟨181, rfl⟩, z_g9, by decide, Or.inl ⟨rfl, ⟨1664, rfl⟩, ⟨0, rfl, z_d1⟩, _, _, _, 109, rfl, rfl⟩⟩
set_option maxRecDepth 100000 in
theorem z_m247 : z_mPr 0 247 1 9 := ⟨⟨1669, rfl⟩, ⟨181, rfl⟩, z_g9, by decide, Or.inl ⟨rfl, ⟨1668, rfl⟩, ⟨0, rfl, z_d1⟩, _, _, _, 110, rfl, rfl⟩⟩
set_option maxRecDepth 100000 in
theorem z_m248 : z_mPr 0 248 1 9 := ⟨⟨1673, rfl⟩, ⟨181, rfl⟩, z_g9, by decide, Or.inl ⟨rfl, ⟨1672, rfl⟩, ⟨0, rfl, z_d1⟩, _, _, _, 111, rfl, rfl⟩⟩
set_option maxRecDepth 100000 in
theorem z_m249 : z_mPr 0 249 1 9 := ⟨⟨1677, rfl⟩, ⟨181, rfl⟩, z_g9, by decide, Or.inl ⟨rfl, ⟨1676, rfl⟩, ⟨0, rfl, z_d1⟩, _, _, _, 112, rfl, rfl⟩⟩
set_option maxRecDepth 100000 in
theorem z_m250 : z_mPr 0 250 1 9 := ⟨⟨1681, rfl⟩, ⟨181, rfl⟩, z_g9, by decide, Or.inl ⟨rfl, ⟨1680, rfl⟩, ⟨0, rfl, z_d1⟩, _, _, _, 113, rfl, rfl⟩⟩
set_option maxRecDepth 100000 in
theorem z_m251 : z_mPr 0 251 1 9 := ⟨⟨1685, rfl⟩, ⟨181, rfl⟩, z_g9, by decide, Or.inl ⟨rfl, ⟨1684, rfl⟩, ⟨0, rfl, z_d1⟩, _, _, _, 114, rfl, rfl⟩⟩
set_option maxRecDepth 100000 in
theorem z_m252 : z_mPr 0 252 1 9 := ⟨⟨1689, rfl⟩, ⟨181, rfl⟩, z_g9, by decide, Or.inl ⟨rfl, ⟨1688, rfl⟩, ⟨0, rfl, z_d3⟩, _, _, _, 115, rfl, rfl⟩⟩
set_option maxRecDepth 100000 in
theorem z_m253 : z_mPr 0 253 1 9 := ⟨⟨1693, rfl⟩, ⟨181, rfl⟩, z_g9, by decide, Or.inl ⟨rfl, ⟨1692, rfl⟩, ⟨0, rfl, z_d3⟩, _, _, _, 116, rfl, rfl⟩⟩
set_option maxRecDepth 100000 in
theorem z_m254 : z_mPr 0 254 1 9 := ⟨⟨1697, rfl⟩, ⟨181, rfl⟩, z_g9, by decide, Or.inl ⟨rfl, ⟨1696, rfl⟩, ⟨0, rfl, z_d3⟩, _, _, _, 117, rfl, rfl⟩⟩
set_option maxRecDepth 100000 in
theorem z_m255 : z_mPr 0 255 2 9 := ⟨⟨1701, rfl⟩, ⟨181, rfl⟩, z_g9, by decide, Or.inl ⟨rfl, ⟨1700, rfl⟩, ⟨1, rfl, z_d27⟩, _, _, _, 118, rfl, rfl⟩⟩
set_option maxRecDepth 100000 in
theorem z_m256 : z_mPr 0 256 1 9 := ⟨⟨1705, rfl⟩, ⟨181, rfl⟩, z_g9, by decide, Or.inl ⟨rfl, ⟨1704, rfl⟩, ⟨0, rfl, z_d1⟩, _, _, _, 119, rfl, rfl⟩⟩
set_option maxRecDepth 100000 in
theorem z_m257 : z_mPr 0 257 2 9 := ⟨⟨1709, rfl⟩, ⟨181, rfl⟩, z_g9, by decide, Or.inl ⟨rfl, ⟨1708, rfl⟩, ⟨1, rfl, z_d6⟩, _, _, _, 120, rfl, rfl⟩⟩
set_option maxRecDepth 100000 in
theorem z_m258 : z_mPr 0 258 4 9 := ⟨⟨1713, rfl⟩, ⟨181, rfl⟩, z_g9, by decide, Or.inl ⟨rfl, ⟨1712, rfl⟩, ⟨3, rfl, z_d11⟩, _, _, _, 121, rfl, rfl⟩⟩
set_option maxRecDepth 100000 in
theorem z_m259 : z_mPr 0 259 1 9 := ⟨⟨1717, rfl⟩, ⟨181, rfl⟩, z_g9, by decide, Or.inl ⟨rfl, ⟨1716, rfl⟩, ⟨0, rfl, z_d1⟩, _, _, _, 122, rfl, rfl⟩⟩
set_option maxRecDepth 100000 in
theorem z_m260 : z_mPr 0 260 1 9 := ⟨⟨1721, rfl⟩, ⟨181, rfl⟩, z_g9, by decide, Or.inl ⟨rfl, ⟨1720, rfl⟩, ⟨0, rfl, z_d1⟩, _, _, _, 123, rfl, rfl⟩⟩
set_option maxRecDepth 100000 in
theorem z_m261 : z_mPr 0 261 1 9 := ⟨⟨1725, rfl⟩, ⟨181, rfl⟩, z_g9, by decide, Or.inl ⟨rfl, ⟨1724, rfl⟩, ⟨0, rfl, z_d2⟩, _, _, _, 124, rfl, rfl⟩⟩
set_option maxRecDepth 100000 in
theorem z_m262 : z_mPr 0 262 1 9 := ⟨⟨1729, rfl⟩, ⟨181, rfl⟩, z_g9, by decide, Or.inl ⟨rfl, ⟨1728, rfl⟩, ⟨0, rfl, z_d1⟩, _, _, _, 125, rfl, rfl⟩⟩
set_option maxRecDepth 100000 in
theorem z_m263 : z_mPr 0 263 1 9 := ⟨⟨1733, rfl⟩, ⟨181, rfl⟩, z_g9, by decide, Or.inl ⟨rfl, ⟨1732, rfl⟩, ⟨0, rfl, z_d3⟩, _, _, _, 126, rfl, rfl⟩⟩
set_option maxRecDepth 100000 in
theorem z_m264 : z_mPr 0 264 2 9 := ⟨⟨1737, rfl⟩, ⟨181, rfl⟩, z_g9, by decide, Or.inl ⟨rfl, ⟨1736, rfl⟩, ⟨1, rfl, z_d6⟩, _, _, _, 127, rfl, rfl⟩⟩
set_option maxRecDepth 100000 in
theorem z_m265 : z_mPr 0 265 2 9 := ⟨⟨1741, rfl⟩, ⟨181, rfl⟩, z_g9, by decide, Or.inl ⟨rfl, ⟨1740, rfl⟩, ⟨1, rfl, z_d27⟩, _, _, _, 128, rfl, rfl⟩⟩
set_option maxRecDepth 100000 in
theorem z_m266 : z_mPr 0 266 1 9 := ⟨⟨1745, rfl⟩, ⟨181, rfl⟩, z_g9, by decide, Or.inl ⟨rfl, ⟨1744, rfl⟩, ⟨0, rfl, z_d1⟩, _, _, _, 129, rfl, rfl⟩⟩
set_option maxRecDepth 100000 in
theorem z_m267 : z_mPr 0 267 1 9 := ⟨⟨1749, rfl⟩, ⟨181, rfl⟩, z_g9, by decide, Or.inl ⟨rfl, ⟨1748, rfl⟩, ⟨0, rfl, z_d1⟩, _, _, _, 130, rfl, rfl⟩⟩
set_option maxRecDepth 100000 in
theorem z_m268 : z_mPr 0 268 2 9 := ⟨⟨1753, rfl⟩, ⟨181, rfl⟩, z_g9, by decide, Or.inl ⟨rfl, ⟨1752, rfl⟩, ⟨1, rfl, z_d27⟩, _, _, _, 131, rfl, rfl⟩⟩
set_option maxRecDepth 100000 in
theorem z_m269 : z_mPr 0 269 2 9 := ⟨⟨1757, rfl⟩, ⟨181, rfl⟩, z_g9, by decide, Or.inl ⟨rfl, ⟨1756, rfl⟩, ⟨1, rfl, z_d27⟩, _, _, _, 132, rfl, rfl⟩⟩
set_option maxRecDepth 100000 in
theorem z_m270 : z_mPr 0 270 1 9 := ⟨⟨1761, rfl⟩, ⟨181, rfl⟩, z_g9, by decide, Or.inl ⟨rfl, ⟨1760, rfl⟩, ⟨0, rfl, z_d1⟩, _, _, _, 133, rfl, rfl⟩⟩
set_option maxRecDepth 100000 in
theorem z_m271 : z_mPr 0 271 1 9 := ⟨⟨1765, rfl⟩, ⟨181, rfl⟩, z_g9, by decide, Or.inl ⟨rfl, ⟨1764, rfl⟩, ⟨0, rfl, z_d1⟩, _, _, _, 134, rfl, rfl⟩⟩
set_option maxRecDepth 100000 in
theorem z_m272 : z_mPr 0 272 2 9 := ⟨⟨1769, rfl⟩, ⟨181, rfl⟩, z_g9, by decide, Or.inl ⟨rfl, ⟨1768, rfl⟩, ⟨1, rfl, z_d27⟩, _, _, _, 135, rfl, rfl⟩⟩
set_option maxRecDepth 100000 in
theorem z_m273 : z_mPr 0 273 1 9 := ⟨⟨1773, rfl⟩, ⟨181, rfl⟩, z_g9, by decide, Or.inl ⟨rfl, ⟨1772, rfl⟩, ⟨0, rfl, z_d1⟩, _, _, _, 136, rfl, rfl⟩⟩
set_option maxRecDepth 100000 in
theorem z_m274 : z_mPr 0 274 1 10 := ⟨⟨1777, rfl⟩, ⟨182, rfl⟩, z_g10, by decide, Or.inl ⟨rfl, ⟨1775, rfl⟩, ⟨0, rfl, z_d1⟩, _, _, _, 1776, rfl, rfl⟩⟩
set_option maxRecDepth 100000 in
theorem z_m275 : z_mPr 0 275 1 9 := ⟨⟨1781, rfl⟩, ⟨181, rfl⟩, z_g9, by decide, Or.inl ⟨rfl, ⟨1780, rfl⟩, ⟨0, rfl, z_d1⟩, _, _, _, 137, rfl, rfl⟩⟩
set_option maxRecDepth 100000 in
theorem z_m276 : z_mPr 0 276 2 9 := ⟨⟨1785, rfl⟩, ⟨181, rfl⟩, z_g9, by decide, Or.inl ⟨rfl, ⟨1784, rfl⟩, ⟨1, rfl, z_d5⟩, _, _, _, 138, rfl, rfl⟩⟩
set_option maxRecDepth 100000 in
theorem z_m277 : z_mPr 0 277 2 9 := ⟨⟨1789, rfl⟩, ⟨181, rfl⟩, z_g9, by decide, Or.inl ⟨rfl, ⟨1788, rfl⟩, ⟨1, rfl, z_d6⟩, _, _, _, 139, rfl, rfl⟩⟩
set_option maxRecDepth 100000 in
theorem z_m278 : z_mPr 0 278 6 9 := ⟨⟨1793, rfl⟩, ⟨181, rfl⟩, z_g9, by decide, Or.inl ⟨rfl, ⟨1792, rfl⟩, ⟨5, rfl, z_d16⟩, _, _, _, 140, rfl, rfl⟩⟩
set_option maxRecDepth 100000 in
theorem z_m279 : z_mPr 0 279 2 9 := ⟨⟨1797, rfl⟩, ⟨181, rfl⟩, z_g9, by decide, Or.inl ⟨rfl, ⟨1796, rfl⟩, ⟨1, rfl, z_d6⟩, _, _, _, 141, rfl, rfl⟩⟩
set_option maxRecDepth 100000 in
theorem z_m280 : z_mPr 0 280 3 9 := ⟨⟨1801, rfl⟩, ⟨181, rfl⟩, z_g9, by decide, Or.inl ⟨rfl, ⟨1800, rfl⟩, ⟨2, rfl, z_d9⟩, _, _, _, 142, rfl, rfl⟩⟩
set_option maxRecDepth 100000 in
theorem z_m281 : z_mPr 0 281 3 9 := ⟨⟨1805, rfl⟩, ⟨181, rfl⟩, z_g9, by decide, Or.inl ⟨rfl, ⟨1804, rfl⟩, ⟨2, rfl, z_d9⟩, _, _, _, 143, rfl, rfl⟩⟩
set_option maxRecDepth 100000 in
theorem z_m282 : z_mPr 0 282 3 9 := ⟨⟨1809, rfl⟩, ⟨181, rfl⟩, z_g9, by decide, Or.inl ⟨rfl, ⟨1808, rfl⟩, ⟨2, rfl, z_d9⟩, _, _, _, 144, rfl, rfl⟩⟩
set_option maxRecDepth 100000 in
theorem z_m283 : z_mPr 0 283 2 9 := ⟨⟨1813, rfl⟩, ⟨181, rfl⟩, z_g9, by decide, Or.inl ⟨rfl, ⟨1812, rfl⟩, ⟨1, rfl, z_d5⟩, _, _, _, 145, rfl, rfl⟩⟩
set_option maxRecDepth 100000 in
theorem z_m284 : z_mPr 0 284 1 9 := ⟨⟨1817, rfl⟩, ⟨181, rfl⟩, z_g9, by decide, Or.inl ⟨rfl, ⟨1816, rfl⟩, ⟨0, rfl, z_d1⟩, _, _, _, 146, rfl, rfl⟩⟩
set_option maxRecDepth 100000 in
theorem z_m285 : z_mPr 0 285 1 9 := ⟨⟨1821, rfl⟩, ⟨181, rfl⟩, z_g9, by decide, Or.inl ⟨rfl, ⟨1820, rfl⟩, ⟨0, rfl, z_d1⟩, _, _, _, 147, rfl, rfl⟩⟩
set_option maxRecDepth 100000 in
theorem z_m286 : z_mPr 0 286 2 9 := ⟨⟨1825, rfl⟩, ⟨181, rfl⟩, z_g9, by decide, Or.inl ⟨rfl, ⟨1824, rfl⟩, ⟨1, rfl, z_d6⟩, _, _, _, 148, rfl, rfl⟩⟩
set_option maxRecDepth 100000 in
theorem z_m287 : z_mPr 0 287 3 9 := ⟨⟨1829, rfl⟩, ⟨181, rfl⟩, z_g9, by decide, Or.inl ⟨rfl, ⟨1828, rfl⟩, ⟨2, rfl, z_d10⟩, _, _, _, 149, rfl, rfl⟩⟩
set_option maxRecDepth 100000 in
theorem z_m288 : z_mPr 0 288 3 9 := ⟨⟨1833, rfl⟩, ⟨181, rfl⟩, z_g9, by decide, Or.inl ⟨rfl, ⟨1831, rfl⟩, ⟨2, rfl, z_d8⟩, _, _, _, 1832, rfl, rfl⟩⟩
set_option maxRecDepth 100000 in
theorem z_m289 : z_mPr 0 289 3 9 := ⟨⟨1837, rfl⟩, ⟨181, rfl⟩, z_g9, by decide, Or.inl ⟨rfl, ⟨1836, rfl⟩, ⟨2, rfl, z_d9⟩, _, _, _, 150, rfl, rfl⟩⟩
set_option maxRecDepth 100000 in
theorem z_m290 : z_mPr 0 290 4 9 := ⟨⟨1841, rfl⟩, ⟨181, rfl⟩, z_g9, by decide, Or.inl ⟨rfl, ⟨1840, rfl⟩, ⟨3, rfl, z_d12⟩, _, _, _, 151, rfl, rfl⟩⟩
set_option maxRecDepth 100000 in
theorem z_m291 : z_mPr 0 291 3 9 := ⟨⟨1845, rfl⟩, ⟨181, rfl⟩, z_g9, by decide, Or.inl ⟨rfl, ⟨1844, rfl⟩, ⟨2, rfl, z_d9⟩, _, _, _, 152, rfl, rfl⟩⟩
set_option maxRecDepth 100000 in
theorem z_m292 : z_mPr 0 292 2 9 := ⟨⟨1849, rfl⟩, ⟨181, rfl⟩, z_g9, by decide, Or.inl ⟨rfl, ⟨1848, rfl⟩, ⟨1, rfl, z_d5⟩, _, _, _, 153, rfl, rfl⟩⟩
set_option maxRecDepth 100000 in
theorem z_m293 : z_mPr 0 293 2 9 := ⟨⟨1853, rfl⟩, ⟨181, rfl⟩, z_g9, by decide, Or.inl ⟨rfl, ⟨1852, rfl⟩, ⟨1, rfl, z_d7⟩, _, _, _, 154, rfl, rfl⟩⟩
set_option maxRecDepth 100000 in
theorem z_m294 : z_mPr 0 294 2 9 := ⟨⟨1857, rfl⟩, ⟨181, rfl⟩, z_g9, by decide, Or.inl ⟨rfl, ⟨1856, rfl⟩, ⟨1, rfl, z_d5⟩, _, _, _, 155, rfl, rfl⟩⟩
set_option maxRecDepth 100000 in
theorem z_m295 : z_mPr 0 295 3 9 := ⟨⟨1861, rfl⟩, ⟨181, rfl⟩, z_g9, by decide, Or.inl ⟨rfl, ⟨1860, rfl⟩, ⟨2, rfl, z_d9⟩, _, _, _, 156, rfl, rfl⟩⟩
set_option maxRecDepth 100000 in
theorem z_m296 : z_mPr 0 296 3 9 := ⟨⟨1865, rfl⟩, ⟨181, rfl⟩, z_g9, by decide, Or.inl ⟨rfl, ⟨1864, rfl⟩, ⟨2, rfl, z_d9⟩, _, _, _, 157, rfl, rfl⟩⟩
set_option maxRecDepth 100000 in
theorem z_m297 : z_mPr 0 297 2 9 := ⟨⟨1869, rfl⟩, ⟨181, rfl⟩, z_g9, by decide, Or.inl ⟨rfl, ⟨1868, rfl⟩, ⟨1, rfl, z_d5⟩, _, _, _, 158, rfl, rfl⟩⟩
set_option maxRecDepth 100000 in
theorem z_m298 : z_mPr 0 298 3 9 := ⟨⟨1873, rfl⟩, ⟨181, rfl⟩, z_g9, by decide, Or.inl ⟨rfl, ⟨1872, rfl⟩, ⟨2, rfl, z_d8⟩, _, _, _, 159, rfl, rfl⟩⟩
set_option maxRecDepth 100000 in
theorem z_m299 : z_mPr 0 299 3 9 := ⟨⟨1877, rfl⟩, ⟨181, rfl⟩, z_g9, by decide, Or.inl ⟨rfl, ⟨1876, rfl⟩, ⟨2, rfl, z_d9⟩, _, _, _, 160, rfl, rfl⟩⟩
set_option maxRecDepth 100000 in
theorem z_m300 : z_mPr 0 300 2 9 := ⟨⟨1881, rfl⟩, ⟨181, rfl⟩, z_g9, by decide, Or.inl ⟨rfl, ⟨1880, rfl⟩, ⟨1, rfl, z_d5⟩, _, _, _, 161, rfl, rfl⟩⟩
set_option maxRecDepth 100000 in
theorem z_m301 : z_mPr 0 301 3 9 := ⟨⟨1885, rfl⟩, ⟨181, rfl⟩, z_g9, by decide, Or.inl ⟨rfl, ⟨1884, rfl⟩, ⟨2, rfl, z_d9⟩, _, _, _, 162, rfl, rfl⟩⟩
set_option maxRecDepth 100000 in
theorem z_m302 : z_mPr 0 302 4 9 := ⟨⟨1889, rfl⟩, ⟨181, rfl⟩, z_g9, by decide, Or.inl ⟨rfl, ⟨1888, rfl⟩, ⟨3, rfl, z_d12⟩, _, _, _, 163, rfl, rfl⟩⟩
set_option maxRecDepth 100000 in
theorem z_m303 : z_mPr 0 303 1 9 := ⟨⟨1893, rfl⟩, ⟨181, rfl⟩, z_g9, by decide, Or.inl ⟨rfl, ⟨1892, rfl⟩, ⟨0, rfl, z_d1⟩, _, _, _, 164, rfl, rfl⟩⟩
set_option maxRecDepth 100000 in
theorem z_m304 : z_mPr 0 304 2 9 := ⟨⟨1897, rfl⟩, ⟨181, rfl⟩, z_g9, by decide, Or.inl ⟨rfl, ⟨1896, rfl⟩, ⟨1, rfl, z_d6⟩, _, _, _, 165, rfl, rfl⟩⟩
set_option maxRecDepth 100000 in
theorem z_m305 : z_mPr 0 305 2 9 := ⟨⟨1901, rfl⟩, ⟨181, rfl⟩, z_g9, by decide, Or.inl ⟨rfl, ⟨1899, rfl⟩, ⟨1, rfl, z_d5⟩, _, _, _, 1900, rfl, rfl⟩⟩
set_option maxRecDepth 100000 in
theorem z_m306 : z_mPr 0 306 2 9 := ⟨⟨1905, rfl⟩, ⟨181, rfl⟩, z_g9, by decide, Or.inl ⟨rfl, ⟨1903, rfl⟩, ⟨1, rfl, z_d5⟩, _, _, _, 1904, rfl, rfl⟩⟩
set_option maxRecDepth 100000 in
theorem z_m307 : z_mPr 0 307 3 9 := ⟨⟨1909, rfl⟩, ⟨181, rfl⟩, z_g9, by decide, Or.inl ⟨rfl, ⟨1907, rfl⟩, ⟨2, rfl, z_d8⟩, _, _, _, 1908, rfl, rfl⟩⟩
set_option maxRecDepth 100000 in
theorem z_m308 : z_mPr 0 308 3 9 := ⟨⟨1913, rfl⟩, ⟨181, rfl⟩, z_g9, by decide, Or.inl ⟨rfl, ⟨1911, rfl⟩, ⟨2, rfl, z_d8⟩, _, _, _, 1912, rfl, rfl⟩⟩
set_option maxRecDepth 100000 in
theorem z_m309 : z_mPr 0 309 3 9 := ⟨⟨1919, rfl⟩, ⟨181, rfl⟩, z_g9, by decide, Or.inl ⟨rfl, ⟨1917, rfl⟩, ⟨2, rfl, z_d8⟩, _, _, _, 1918, rfl, rfl⟩⟩
set_option maxRecDepth 100000 in
theorem z_m310 : z_mPr 0 310 1 9 := ⟨⟨1923, rfl⟩, ⟨181, rfl⟩, z_g9, by decide, Or.inl ⟨rfl, ⟨1921, rfl⟩, ⟨0, rfl, z_d1⟩, _, _, _, 1922, rfl, rfl⟩⟩
set_option maxRecDepth 100000 in
theorem z_m311 : z_mPr 0 311 1 0 := ⟨⟨626, rfl⟩, ⟨167, rfl⟩, z_g0, by decide, Or.inl ⟨rfl, ⟨624, rfl⟩, ⟨0, rfl, z_d1⟩, _, _, _, 625, rfl, rfl⟩⟩
set_option maxRecDepth 100000 in
theorem z_m312 : z_mPr 0 312 1 9 := ⟨⟨1516, rfl⟩, ⟨181, rfl⟩, z_g9, by decide, Or.inl ⟨rfl, ⟨1514, rfl⟩, ⟨0, rfl, z_d1⟩, _, _, _, 1515, rfl, rfl⟩⟩
